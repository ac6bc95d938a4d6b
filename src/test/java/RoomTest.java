import com.sun.management.ThreadMXBean;
import java.lang.management.ManagementFactory;

/** All calls of a run live in one room: an object is made once, and its calls make nothing. */
public final class RoomTest {
    private static final String SIX = "DF10210F20321F31432F42543F53650F60761I1I3";
    private static final ThreadMXBean THREADS = (ThreadMXBean) ManagementFactory.getThreadMXBean();

    private static long sum = 0;

    public static void main(String[] args) {
        DykeFarms x = Due.dyke(SIX);
        everyCall(x, 400);
        THREADS.getCurrentThreadAllocatedBytes();
        long before = THREADS.getCurrentThreadAllocatedBytes();
        everyCall(x, 512);
        long calls = THREADS.getCurrentThreadAllocatedBytes() - before;
        Due.holds("512 of every call make " + calls + " bytes, 20000 at most", calls <= 20000);

        before = THREADS.getCurrentThreadAllocatedBytes();
        for (int i = 0; i < 100; i++) {
            sum += new DykeFarms().about(0);
        }
        long made = (THREADS.getCurrentThreadAllocatedBytes() - before) / 100;
        Due.holds("an object is " + made + " bytes, 40000 at most", made <= 40000);
        Due.holds("the calls are not left out", sum != 0);
        Due.end();
    }

    private static void everyCall(DykeFarms x, int times) {
        for (int i = 0; i < times; i++) {
            int farm = i % 6;
            int other = i * 5 % 7;
            int storm = i % 21;
            sum += x.write('D') + x.wipe() + x.fault() + x.about(i % 7) + x.farm(farm, i % 7) + x.owes(farm, other);
            sum += x.carry(farm, other) + x.lend(farm, other) + x.storm(storm) + x.stick(farm) + x.pull(other, farm);
            sum += x.dam(farm) + x.undo() + x.breaks(storm) + x.drowns(storm) + x.loss(storm) + x.needs(storm);
            sum += x.placing(i % 61, storm, i % 2) + x.all() + x.told(farm, 5, 1516171819L, i % 3) + x.wet(i % 64, i % 3);
            sum += x.net(farm) + x.payings() + x.share(farm, storm, true) + x.rests(farm, other, farm, storm, 1);
            sum += x.threes(farm, storm, storm - 1, 5, true) + x.seed(i) + x.winters(20) + x.keep(i % 2) + x.again(i % 2);
            tell(x);
            sum += x.dyke();
        }
    }

    private static void tell(DykeFarms x) {
        for (int i = 0; i < SIX.length(); i++) {
            sum += x.write(SIX.charAt(i));
        }
    }
}
