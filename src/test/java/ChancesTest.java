import java.math.BigInteger;

/** Promises 27 to 30. */
public final class ChancesTest {
    public static void main(String[] args) {
        rests();
        restsRefused();
        threes();
        threesRefused();
        seed();
        winters();
        wintersOneByOne();
        Due.end();
    }

    private static void rests(DykeFarms x, int stretch, int storm, int many, int first) {
        String call = "rests(0, 1, " + stretch + ", " + storm;
        Due.is(call + ", 0)", x.rests(0, 1, stretch, storm, 0), many);
        Due.is(call + ", 1)", x.rests(0, 1, stretch, storm, 1), first);
    }

    private static void rests() {
        DykeFarms x = Due.dyke("DF00050F90050");
        rests(x, 0, 0, 1, 0);
        // 1 is lacking: one of them gives it
        rests(x, 0, 1, 2, 1);
        // 2 are lacking: 0 and 2, 1 and 1, 2 and 0
        rests(x, 0, 2, 3, 2);
        // 4 are lacking: none, or 1 and 3, 2 and 2, 3 and 1
        rests(x, 0, 4, 4, 0);
        // 6: none, or 3 and 3; 7: none
        rests(x, 0, 6, 2, 0);
        rests(x, 0, 7, 1, 0);
        // the other stretch breaks: nothing helps
        rests(x, 0, 10, 1, 0);
        // nothing is given to what holds
        rests(x, 1, 9, 1, 0);
        x.dam(0);
        // only 0 has something of it
        rests(x, 0, 2, 1, 20);
        Due.is("the other way round", x.rests(1, 0, 0, 2, 1), 2);
        Due.is("clay that they do not have", x.about(4), 0);
        DykeFarms y = Due.dyke("DF00010F90020");
        // 1 lacking: 0 has as much by giving (1 - 1) as by not
        rests(y, 0, 1, 2, 1);
        // 2 lacking, worth 1 and 2: none (1 has nothing more by 2), 0 and 2, 1 and 1
        rests(y, 0, 2, 3, 0);
        DykeFarms z = Due.dyke("DF90900F90900F00990");
        rests(z, 2, 2, 1, 0);
        Due.is("rests of others", z.rests(2, 0, 2, 2, 1), 20);
        Due.is("nothing changes", z.about(4) + z.about(5), 27);
    }

    private static void restsRefused() {
        DykeFarms x = Due.dyke("DF00050F90050");
        Due.is("rests(2, 0, 0, 0, 0)", x.rests(2, 0, 0, 0, 0), -1);
        Due.is("rests(0, 2, 0, 0, 0)", x.rests(0, 2, 0, 0, 0), -1);
        Due.is("rests(0, 1, 2, 0, 0)", x.rests(0, 1, 2, 0, 0), -1);
        Due.is("rests(-1, 1, 0, 0, 0)", x.rests(-1, 1, 0, 0, 0), -1);
        Due.is("rests(0, -1, 0, 0, 0)", x.rests(0, -1, 0, 0, 0), -1);
        Due.is("rests(0, 1, -1, 0, 0)", x.rests(0, 1, -1, 0, 0), -1);
        Due.is("rests(0, 0, 0, 0, 0)", x.rests(0, 0, 0, 0, 0), -2);
        Due.is("rests(0, 1, 0, 21, 0)", x.rests(0, 1, 0, 21, 0), -2);
        Due.is("rests(0, 1, 0, -1, 0)", x.rests(0, 1, 0, -1, 0), -2);
        Due.is("rests(0, 1, 0, 0, 2)", x.rests(0, 1, 0, 0, 2), -2);
        Due.is("rests(0, 1, 0, 0, -1)", x.rests(0, 1, 0, 0, -1), -2);
        Due.is("UNKNOWN ahead of BAD", x.rests(0, 0, 2, 21, 2), -1);
    }

    private static void threes(DykeFarms x, int[] call, int above, int below) {
        String told = "threes(0, " + call[0] + ", " + call[1] + ", " + call[2];
        Due.is(told + ", true)", x.threes(0, call[0], call[1], call[2], true), above);
        Due.is(told + ", false)", x.threes(0, call[0], call[1], call[2], false), below);
    }

    private static void threes() {
        DykeFarms x = Due.dyke("DF50000");
        threes(x, new int[] {6, 4, 3}, 343, 1000);
        threes(x, new int[] {6, 4, 0}, 1, 1);
        threes(x, new int[] {6, 4, 10}, 0, 1);
        threes(x, new int[] {4, 6, 10}, 1, 1);
        threes(x, new int[] {4, 6, 2}, 1, 125);
        // 5 and 4: 444, 445, 454 hold
        threes(x, new int[] {5, 4, 5}, 3, 8);
        threes(x, new int[] {5, 4, 1}, 729 + 81 + 81, 1000);
        // 5 and 0: all with one 5 at most
        threes(x, new int[] {5, 0, 5}, 1, 2);
        threes(x, new int[] {5, 5, 5}, 0, 1);
        threes(x, new int[] {20, 20, 5}, 0, 1);
        threes(x, new int[] {0, 0, 5}, 1, 1);
        DykeFarms low = Due.dyke("DF02000");
        // what is 0 high is not lower than that
        threes(low, new int[] {2, 2, 5}, 1, 1);
        Due.is("nothing changes", low.about(3) + low.about(5), 0);
    }

    private static void threesRefused() {
        DykeFarms x = Due.dyke("DF50000");
        Due.is("threes(1, 0, 0, 0, true)", x.threes(1, 0, 0, 0, true), -1);
        Due.is("threes(-1, 0, 0, 0, true)", x.threes(-1, 0, 0, 0, true), -1);
        Due.is("threes(0, 21, 0, 0, true)", x.threes(0, 21, 0, 0, true), -2);
        Due.is("threes(0, -1, 0, 0, true)", x.threes(0, -1, 0, 0, true), -2);
        Due.is("threes(0, 0, 21, 0, true)", x.threes(0, 0, 21, 0, true), -2);
        Due.is("threes(0, 0, -1, 0, true)", x.threes(0, 0, -1, 0, true), -2);
        Due.is("threes(0, 0, 0, 11, false)", x.threes(0, 0, 0, 11, false), -2);
        Due.is("threes(0, 0, 0, -1, false)", x.threes(0, 0, 0, -1, false), -2);
        Due.is("threes(1, 21, 0, 0, true): UNKNOWN ahead of BAD", x.threes(1, 21, 0, 0, true), -1);
    }

    private static void seed() {
        DykeFarms x = new DykeFarms();
        Due.is("seed(max)", x.seed(Long.MAX_VALUE), 0);
        Due.is("seed(min)", x.seed(Long.MIN_VALUE), Long.MAX_VALUE);
        Due.is("seed(-5)", x.seed(-5), Long.MIN_VALUE);
        Due.is("seed(0)", x.seed(0), -5);
    }

    /** The seed after it, told by numbers that do not wrap by themselves. */
    private static long next(long seed) {
        return BigInteger.valueOf(seed).multiply(new BigInteger("6364136223846793005"))
                .add(new BigInteger("1442695040888963407")).longValue();
    }

    private static int stormOf(long seed) {
        BigInteger bits = BigInteger.valueOf(seed).mod(BigInteger.ONE.shiftLeft(64));
        return bits.shiftRight(33).mod(BigInteger.valueOf(16)).intValue();
    }

    private static void winters() {
        DykeFarms x = Due.dyke("DF93930");
        Due.is("winters(0)", x.winters(0), -2);
        Due.is("winters(21)", x.winters(21), -2);
        Due.is("winters(-1)", x.winters(-1), -2);
        Due.is("refused: the seed", x.seed(0), 0);
        x.winters(1);
        Due.is("the seed after one", x.seed(1), 1442695040888963407L);
        x.winters(20);
        long seed = 1;
        for (int i = 0; i < 20; i++) {
            seed = next(seed);
        }
        Due.is("the seed after twenty", x.seed(0), seed);
        Due.is("winters change no heights", x.farm(0, 0), 9);
        Due.is("no tide, no acts, no spades", x.about(3) + x.about(5) + x.about(2), 0);
        Due.is("no farms: winters(2)", new DykeFarms().winters(2), 0);
    }

    /** Just as storms one behind the other. */
    private static void wintersOneByOne() {
        for (long first = -40; first < 40; first++) {
            DykeFarms x = Due.dyke("DF93030F60011F72052I0");
            x.seed(first * 1234567890123L);
            int got = x.winters(6);
            long seed = first * 1234567890123L;
            int due = 0;
            for (int i = 0; i < 6; i++) {
                seed = next(seed);
                due += x.storm(stormOf(seed));
            }
            Due.is("winters(6) from " + first, got, due);
        }
    }
}
