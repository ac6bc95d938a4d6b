import java.util.Random;

/** The calls themselves: 512 of them, any arguments at all, and objects that have nothing in common. */
public final class CallsTest {
    private static final int[] WILD = {Integer.MIN_VALUE, Integer.MIN_VALUE + 1, -65, -33, -9, -2, -1, 0, 1, 2, 5, 6, 7,
        15, 16, 20, 21, 31, 32, 33, 48, 60, 61, 63, 64, 255, 256, 65536, Integer.MAX_VALUE - 1, Integer.MAX_VALUE};
    private static final int[] FEW = {Integer.MIN_VALUE, -1, 0, 1, 3, 5, 6, 20, 21, Integer.MAX_VALUE};
    private static final long[] LONGS = {Long.MIN_VALUE, -2020202020L, -1, 0, 20, 21, 2020, 2020202020L, 2020202021L,
        10000000000L, Long.MAX_VALUE};
    private static final String[] TEXTS = {"", "D", "DF00000", "DF93993", "DF90900F00103I0",
        "DF93993F93993F93993F93993F93993F93993I0I1I2I3I4"};

    public static void main(String[] args) {
        theLastOf512();
        objectsApart();
        anyArguments();
        Due.end();
    }

    private static void theLastOf512() {
        Due.by("An object is used for at most 512 calls after it has been made");
        DykeFarms x = Due.dyke("DF90930F93032");
        int calls = 14;
        while (calls < 509) {
            x.storm(0);
            calls++;
        }
        Due.is("about(3), call 510", x.about(3), 495);
        Due.is("storm(20), call 511", x.storm(20), 6);
        Due.is("undo(), call 512", x.undo(), 13);
        DykeFarms owing = Due.dyke("DF00900F00900");
        for (int i = 1; i <= 248; i++) {
            Due.is("lend(0, 1)", owing.lend(0, 1), i);
            Due.is("lend(1, 0)", owing.lend(1, 0), i);
        }
        Due.is("net(1), call 511", owing.net(1), 100);
        Due.is("payings(), call 512", owing.payings(), 0);
    }

    private static void objectsApart() {
        Due.by("No farms. [nothing of one object is another one's]");
        DykeFarms x = Due.dyke("DF90930F93032");
        x.seed(5);
        x.keep(0);
        x.storm(20);
        DykeFarms y = new DykeFarms();
        Due.is("about(0) of another one", y.about(0), 0);
        Due.is("seed(1) of another one", y.seed(1), 0);
        Due.is("again(0) of another one", y.again(0), -3);
        Due.is("undo() of another one", y.undo(), -3);
        y.write('X');
        y.winters(20);
        Due.is("fault() of the first one", x.fault(), -9);
        Due.is("seed(0) of the first one", x.seed(0), 5);
        Due.is("undo() of the first one", x.undo(), 0);
        Due.is("farm(0, 0) of the first one", x.farm(0, 0), 9);
    }

    private static DykeFarms made(int text) {
        DykeFarms x = Due.text(TEXTS[text]);
        x.dyke();
        x.carry(0, 0);
        x.lend(0, 1);
        x.storm(9);
        return x;
    }

    /** What the machine throws ends the test. */
    private static void anyArguments() {
        Due.by("REFUSALS: UNKNOWN -1, BAD -2, LATE -3, FULL -4; NONE is -9 [no call answers otherwise below nothing]");
        for (int text = 0; text < TEXTS.length; text++) {
            DykeFarms x = made(text);
            for (int one : WILD) {
                ones(x, one);
                x = made(text);
                for (int two : WILD) {
                    twos(x, one, two);
                }
            }
            threesAndMore(text);
            byChance(text);
        }
    }

    private static void sane(String call, long got) {
        Due.holds(call + " answered " + got, got >= 0 && got <= 10000 || got <= -1 && got >= -4 || got == -9);
    }

    private static void ones(DykeFarms x, int a) {
        sane("write(" + a + ")", x.write(a));
        sane("about(" + a + ")", x.about(a));
        sane("storm(" + a + ")", x.storm(a));
        sane("stick(" + a + ")", x.stick(a));
        sane("dam(" + a + ")", x.dam(a));
        sane("breaks(" + a + ")", x.breaks(a));
        sane("drowns(" + a + ")", x.drowns(a));
        sane("loss(" + a + ")", x.loss(a));
        sane("needs(" + a + ")", x.needs(a));
        sane("net(" + a + ")", x.net(a));
        sane("winters(" + a + ")", x.winters(a));
        sane("again(" + a + ")", x.again(a));
        sane("keep(" + a + ")", x.keep(a));
    }

    private static void twos(DykeFarms x, int a, int b) {
        String both = "(" + a + ", " + b + ")";
        sane("farm" + both, x.farm(a, b));
        sane("owes" + both, x.owes(a, b));
        sane("wet" + both, x.wet(a, b));
        sane("share" + both, x.share(a, b, true));
        sane("share" + both, x.share(a, b, false));
        sane("carry" + both, x.carry(a, b));
        sane("lend" + both, x.lend(a, b));
        sane("pull" + both, x.pull(a, b));
    }

    private static void threesAndMore(int text) {
        for (int a : FEW) {
            for (int b : FEW) {
                for (int c : FEW) {
                    DykeFarms x = made(text);
                    sane("placing(" + a + ", " + b + ", " + c + ")", x.placing(a, b, c));
                    for (long storms : LONGS) {
                        sane("told(" + a + ", " + b + ", " + storms + ", " + c + ")", x.told(a, b, storms, c));
                    }
                    for (int d : FEW) {
                        sane("threes(" + a + ", " + b + ", " + c + ", " + d + ")", x.threes(a, b, c, d, true));
                        sane("rests(" + a + ", " + b + ", " + c + ", " + d + ", 0)", x.rests(a, b, c, d, 0));
                        sane("rests(" + a + ", " + b + ", " + c + ", 20, " + d + ")", x.rests(a, b, c, 20, d));
                    }
                }
            }
        }
    }

    private static int any(Random chance) {
        int kind = chance.nextInt(4);
        return kind == 0 ? chance.nextInt() : kind == 1 ? WILD[chance.nextInt(WILD.length)] : chance.nextInt(8);
    }

    /** Fewer than 512 calls each. */
    private static void byChance(int text) {
        for (int run = 0; run < 50; run++) {
            Random chance = new Random(100L * text + run);
            DykeFarms x = Due.text(TEXTS[text].substring(0, TEXTS[text].length() * (run % 3 + 1) / 3));
            for (int i = 0; i < 14; i++) {
                x.dyke();
                ones(x, any(chance));
                x.undo();
                twos(x, any(chance), any(chance));
                sane("told", x.told(any(chance), any(chance), chance.nextLong(), any(chance)));
                sane("rests", x.rests(any(chance), any(chance), any(chance), any(chance), any(chance)));
                x.seed(chance.nextLong());
                sane("fault", x.fault());
                sane("payings", x.payings());
                sane("all", x.all());
                x.dyke();
            }
        }
    }
}
