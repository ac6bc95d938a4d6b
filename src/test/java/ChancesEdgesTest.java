import java.math.BigInteger;

/** The edges of RESTS, THREES, THE SEED and WINTERS: promises 27 to 30, sentence by sentence. */
public final class ChancesEdgesTest {
    private static final long[] SEEDS = {0, 1, -1, 2, 5, 1L << 32, 1L << 33, -(1L << 33), 1L << 62, 1L << 63,
        Long.MIN_VALUE + 1, Long.MAX_VALUE - 1, Long.MAX_VALUE, 1442695040888963407L, -1442695040888963407L,
        6364136223846793005L, 4611686018427387905L};
    /** Stretches 0 to 15 strong. */
    private static final String[] STRONG = {"DF00010", "DF10010", "DF20010", "DF30010", "DF40010", "DF50010",
        "DF60010", "DF70010", "DF80010", "DF90010", "DF91010", "DF92010", "DF93010", "DF92013", "DF93013", "DF93012"};

    public static void main(String[] args) {
        nothingIsChanged();
        restsOfLoads();
        restsNeitherHasMore();
        restsOfOwnLand();
        restsOneAndOther();
        restsAllElse();
        restsAsIfTheyHadThem();
        restsLeastAndGreatestStorm();
        restsAlwaysOne();
        threesTenths();
        threesLeastAndGreatest();
        threesOneBehindTheOther();
        threesOfTheStretch();
        threesAsActs();
        seedIsALong();
        seedWraps();
        stormOfItsUpperBits();
        wintersOneToTwenty();
        wintersLossTogether();
        Due.end();
    }

    private static void story(DykeFarms x) {
        Due.write(x, "DF93950F90041F21332F00103I1");
        x.dyke();
        x.carry(0, 3);
        x.keep(0);
        x.storm(9);
        x.lend(0, 3);
        x.pull(3, 2);
        x.seed(123);
    }

    private static void nothingIsChanged() {
        Due.by("In what follows nothing is changed.");
        Twins.same("rests, threes", ChancesEdgesTest::story, x -> {
            for (int i = 0; i < 60; i++) {
                x.rests(i % 4, (i + 1) % 4, i % 3, i % 21, i % 2);
                x.threes(i % 4, i % 21, i % 20, i % 11, i % 2 == 0);
            }
        });
        Due.by("(Nothing changes but THE SEED.)");
        for (int m = 1; m <= 20; m++) {
            int asked = m;
            Twins.same("winters(" + m + ")", ChancesEdgesTest::story, x -> {
                x.winters(asked);
                x.seed(123);
            });
        }
    }

    private static void rests(String text, int storm, int many, int first) {
        DykeFarms x = Due.dyke(text);
        Due.is("rests(0, 1, 0, " + storm + ", 0) of " + text, x.rests(0, 1, 0, storm, 0), many);
        Due.is("rests(0, 1, 0, " + storm + ", 1) of " + text, x.rests(0, 1, 0, storm, 1), first);
    }

    private static void restsOfLoads() {
        Due.by("RESTS: each gives 0 .. 3 loads to it: how many; the first one (10 times the one and the other)");
        int[][] due = {{0, 1, 0}, {1, 2, 1}, {2, 3, 2}, {3, 4, 3}, {4, 4, 0}, {5, 3, 0}, {6, 2, 0}, {7, 1, 0},
                {15, 1, 0}};
        for (int[] row : due) {
            rests("DF00090F93092", row[0], row[1], row[2]);
        }
        rests("DF90090F93092", 9, 1, 0);
        rests("DF90090F93092", 10, 2, 1);
        rests("DF90090F93092", 12, 4, 3);
        rests("DF90090F93092", 15, 2, 0);
    }

    private static void restsNeitherHasMore() {
        Due.by("pairs in which neither has more by giving otherwise alone");
        rests("DF00000F93002", 1, 1, 0);
        rests("DF00010F93012", 1, 3, 0);
        rests("DF00010F93012", 2, 2, 0);
        rests("DF00020F93022", 1, 2, 1);
        rests("DF00020F93022", 2, 4, 0);
        rests("DF00020F93022", 5, 1, 0);
        rests("DF00020F93022", 6, 1, 0);
        rests("DF00030F93032", 2, 3, 2);
        rests("DF00030F93032", 3, 5, 0);
        rests("DF00030F93032", 5, 3, 0);
        rests("DF00030F93032", 6, 2, 0);
        rests("DF00040F93042", 3, 4, 3);
        // 0 has 3 of it, 1 has 2: by 3 and 2 they have as much as by nothing
        rests("DF00030F93022", 5, 2, 0);
        rests("DF00030F93022", 6, 1, 0);
    }

    private static void restsOfOwnLand() {
        Due.by("each has worth of its own LAND, if it does not drown then (all else as it is), less what it gives");
        rests("DF00090F93092I0", 1, 1, 10);
        rests("DF00090F93092I0", 3, 1, 30);
        rests("DF00090F93092I0", 4, 1, 0);
        rests("DF00030F93092I0", 3, 2, 0);
        rests("DF00020F93092I0", 3, 1, 0);
        rests("DF00090F93002", 3, 1, 30);
        rests("DF00000F93092", 3, 1, 3);
    }

    private static void restsOneAndOther() {
        Due.by("RESTS of two FARMS: 10 times the one and the other");
        DykeFarms x = Due.dyke("DF93092F00000F93002F93002F93002F93002I1");
        for (int other = 1; other < 6; other++) {
            Due.is("rests(0, " + other + ", 1, 2, 0)", x.rests(0, other, 1, 2, 0), 1);
            Due.is("rests(0, " + other + ", 1, 2, 1)", x.rests(0, other, 1, 2, 1), 20);
            Due.is("rests(" + other + ", 0, 1, 2, 1)", x.rests(other, 0, 1, 2, 1), 2);
        }
        Due.is("rests(4, 5, 1, 2, 1) of others", x.rests(4, 5, 1, 2, 1), 0);
        Due.is("rests(5, 0, 5, 15, 1) of what holds", x.rests(5, 0, 5, 15, 1), 0);
    }

    private static void restsAllElse() {
        Due.by("RESTS (all else as it is)");
        rests("DF00090F00090", 1, 1, 0);
        rests("DF00090F00090I0", 1, 1, 10);
        rests("DF00090F10090", 1, 2, 1);
        rests("DF00090F10090", 2, 1, 0);
    }

    private static void restsAsIfTheyHadThem() {
        Due.by("RESTS (as if they had them; 15 does not count here)");
        DykeFarms x = Due.dyke("DF90990F93992");
        for (int i = 0; i < 6; i++) {
            x.carry(0, 0);
            x.carry(1, 1);
        }
        // 15 and 21 strong
        int[][] due = {{15, 1, 0}, {16, 2, 1}, {18, 4, 3}, {20, 3, 0}};
        for (int[] row : due) {
            Due.is("rests(0, 1, 0, " + row[0] + ", 0)", x.rests(0, 1, 0, row[0], 0), row[1]);
            Due.is("rests(0, 1, 0, " + row[0] + ", 1)", x.rests(0, 1, 0, row[0], 1), row[2]);
        }
        for (int i = 0; i < 3; i++) {
            x.lend(0, 1);
        }
        Due.is("farm(0, 2)", x.farm(0, 2), 0);
        Due.is("rests(0, 1, 0, 18, 0) of no clay", x.rests(0, 1, 0, 18, 0), 4);
    }

    private static void restsLeastAndGreatestStorm() {
        Due.by("a STRETCH and a STORM of x; RESTS: BAD: both FARMS are one, x, what");
        rests("DF00090F93092", 0, 1, 0);
        rests("DF00090F93092", 20, 1, 0);
        rests("DF00090F93092", 21, -2, -2);
        rests("DF00090F93092", -1, -2, -2);
    }

    private static void restsAlwaysOne() {
        Due.by("RESTS: how many (what = 0), the first one (1; NONE)");
        for (int worths = 0; worths < 100; worths++) {
            for (int dams = 0; dams < 2; dams++) {
                DykeFarms x = Due.dyke("DF000" + worths / 10 + "0F930" + worths % 10 + "2" + (dams == 1 ? "I0" : ""));
                for (int storm = 0; storm <= 7; storm++) {
                    int many = x.rests(0, 1, 0, storm, 0);
                    int first = x.rests(0, 1, 0, storm, 1);
                    Due.holds("rests() by " + worths + ", " + storm + ": " + many + ", " + first,
                            many >= 1 && many <= 16 && first >= 0 && first % 10 <= 3 && first <= 33);
                }
            }
        }
    }

    private static void threes(DykeFarms x, int a, int b, int t, int above, int below) {
        String call = "threes(0, " + a + ", " + b + ", " + t + ", ";
        Due.is(call + "true)", x.threes(0, a, b, t, true), above);
        Due.is(call + "false)", x.threes(0, a, b, t, false), below);
    }

    private static void threesTenths() {
        Due.by("each of high a (0 .. 20) by t tenths (0 .. 10), else of low b (0 .. 20), by itself");
        int[][] due = {{1, 1}, {729, 1000}, {64, 125}, {343, 1000}, {27, 125}, {1, 8}, {8, 125}, {27, 1000}, {1, 125},
                {1, 1000}, {0, 1}};
        DykeFarms x = Due.dyke("DF00000");
        for (int t = 0; t <= 10; t++) {
            threes(x, 1, 0, t, due[t][0], due[t][1]);
            threes(x, 0, 1, 10 - t, due[t][0], due[t][1]);
        }
        threes(x, 0, 0, 5, 1, 1);
        threes(x, 1, 1, 5, 0, 1);
        threes(x, 1, 0, -1, -2, -2);
        threes(x, 1, 0, 11, -2, -2);
    }

    private static void threesLeastAndGreatest() {
        Due.by("each of high a (0 .. 20) by t tenths (0 .. 10), else of low b (0 .. 20), by itself [a and b]");
        DykeFarms x = Due.dyke("DF93902");
        threes(x, 20, 20, 5, 0, 1);
        threes(x, 20, 0, 0, 1, 1);
        threes(x, 20, 0, 5, 1, 8);
        threes(x, 0, 20, 5, 1, 8);
        threes(x, 21, 0, 0, -2, -2);
        threes(x, -1, 0, 0, -2, -2);
        threes(x, 0, 21, 0, -2, -2);
        threes(x, 0, -1, 0, -2, -2);
        for (int i = 0; i < 5; i++) {
            x.carry(0, 0);
        }
        // 20 strong
        threes(x, 20, 20, 5, 0, 1);
        threes(x, 20, 0, 5, 1, 2);
        threes(x, 20, 19, 5, 3, 8);
        threes(x, 20, 19, 0, 1, 1);
        threes(x, 20, 0, 1, 243, 250);
        x.carry(0, 0);
        // 21 strong
        threes(x, 20, 20, 5, 1, 1);
        threes(x, 20, 20, 10, 1, 1);
    }

    private static void threesOneBehindTheOther() {
        Due.by("three STORMS one behind the other: whose STRENGTH was x just is 1 lower (0 at least)");
        DykeFarms x = Due.dyke("DF50000");
        threes(x, 5, 5, 10, 0, 1);
        threes(x, 4, 4, 10, 1, 1);
        // 444, 445, 454 hold; 544 does not
        threes(x, 5, 4, 5, 3, 8);
        threes(x, 4, 5, 5, 3, 8);
        threes(x, 5, 4, 1, 891, 1000);
        // one 5 at most
        threes(x, 5, 3, 5, 1, 2);
        threes(x, 6, 5, 5, 0, 1);
        DykeFarms grass = Due.dyke("DF03000");
        threes(grass, 3, 3, 5, 1, 1);
        threes(grass, 4, 3, 5, 1, 8);
        DykeFarms one = Due.dyke("DF13000");
        threes(one, 4, 4, 5, 0, 1);
        threes(one, 4, 3, 5, 1, 2);
    }

    private static void threesOfTheStretch() {
        Due.by("THREES: the chance that a STRETCH BREAKS in none");
        DykeFarms x = Due.dyke("DF00000F93992F50000F00000F00000F10000");
        int[][] due = {{0, 1}, {1, 1}, {1, 1}, {0, 1}, {0, 1}, {0, 1}};
        for (int stretch = 0; stretch < 6; stretch++) {
            Due.is("threes(" + stretch + ", 4, 4, 5, true)", x.threes(stretch, 4, 4, 5, true), due[stretch][0]);
            Due.is("threes(" + stretch + ", 4, 4, 5, false)", x.threes(stretch, 4, 4, 5, false), due[stretch][1]);
        }
    }

    /** On twins each row of three storms comes as ACTS. */
    private static void threesAsActs() {
        Due.by("THREES: each of high a by t tenths, else of low b: the chance that a STRETCH BREAKS in none");
        String text = "DF30010F21011F12012F10013";
        for (int stretch = 0; stretch < 4; stretch++) {
            for (int a = 0; a <= 7; a++) {
                for (int b = 0; b <= 7; b++) {
                    int[] rows = rowsThatHold(text, stretch, a, b);
                    for (int t = 0; t <= 10; t++) {
                        int of1000 = rows[0] * (10 - t) * (10 - t) * (10 - t) + rows[1] * t * (10 - t) * (10 - t)
                                + rows[2] * t * t * (10 - t) + rows[3] * t * t * t;
                        int common = BigInteger.valueOf(of1000).gcd(BigInteger.valueOf(1000)).intValue();
                        DykeFarms x = Due.dyke(text);
                        String call = "threes(" + stretch + ", " + a + ", " + b + ", " + t + ", ";
                        Due.is(call + "true)", x.threes(stretch, a, b, t, true), of1000 / common);
                        Due.is(call + "false)", x.threes(stretch, a, b, t, false), 1000 / common);
                    }
                }
            }
        }
    }

    /** How many rows of three storms with 0, 1, 2, 3 high ones a stretch holds through. */
    private static int[] rowsThatHold(String text, int stretch, int a, int b) {
        int[] rows = new int[4];
        for (int row = 0; row < 8; row++) {
            DykeFarms twin = Due.dyke(text);
            boolean holds = true;
            for (int i = 0; i < 3; i++) {
                int storm = (row >> i & 1) == 1 ? a : b;
                holds = holds && (twin.breaks(storm) >> stretch & 1) == 0;
                twin.storm(storm);
            }
            rows[Integer.bitCount(row)] += holds ? 1 : 0;
        }
        return rows;
    }

    private static void seedIsALong() {
        Due.by("THE SEED is v: what it was. (a long; 0 at first)");
        DykeFarms x = new DykeFarms();
        long was = 0;
        for (long seed : SEEDS) {
            Due.is("seed(" + seed + ")", x.seed(seed), was);
            was = seed;
        }
        Due.is("seed(0)", x.seed(0), was);
        Due.is("seed(0) anew", x.seed(0), 0);
    }

    private static BigInteger next(BigInteger seed) {
        return seed.multiply(new BigInteger("6364136223846793005")).add(new BigInteger("1442695040888963407"))
                .mod(BigInteger.ONE.shiftLeft(64));
    }

    private static int stormOf(BigInteger seed) {
        return seed.mod(BigInteger.ONE.shiftLeft(64)).shiftRight(33).mod(BigInteger.valueOf(16)).intValue();
    }

    private static void seedWraps() {
        Due.by("becomes x times 6364136223846793005 and 1442695040888963407 (64 bits, wrapping)");
        for (long first : SEEDS) {
            BigInteger seed = BigInteger.valueOf(first);
            for (int m = 1; m <= 20; m++) {
                seed = next(seed);
                DykeFarms x = new DykeFarms();
                x.seed(first);
                x.winters(m);
                Due.is("the seed behind winters(" + m + ") from " + first, x.seed(0), seed.longValue());
            }
        }
    }

    /** Stretches 0 to 15 strong tell which storm it was: just those break that are weaker. */
    private static void stormOfItsUpperBits() {
        Due.by("what is left of its upper 31 bits by 16 is the STORM");
        boolean[] seen = new boolean[16];
        for (long first = -100; first < 100; first++) {
            long from = first * 7046029254386353131L;
            int due = stormOf(next(BigInteger.valueOf(from)));
            int got = 0;
            for (String text : STRONG) {
                DykeFarms x = Due.dyke(text);
                x.seed(from);
                got += x.winters(1);
            }
            Due.is("the storm behind seed " + from, got, due);
            seen[due] = true;
        }
        for (int storm = 0; storm <= 15; storm++) {
            Due.holds("a storm of " + storm + " was among them", seen[storm]);
        }
    }

    private static void wintersOneToTwenty() {
        Due.by("WINTERS: m STORMS (1 .. 20). BAD: m.");
        DykeFarms x = Due.dyke("DF00010");
        x.seed(0);
        Due.is("winters(0)", x.winters(0), -2);
        Due.is("winters(21)", x.winters(21), -2);
        Due.is("the seed behind refused ones", x.seed(0), 0);
        // 1442695040888963407 by 2^33 is 167951807, and 15 is left of it by 16
        Due.is("winters(1) from 0", x.winters(1), 1);
        Due.is("the seed behind winters(1)", x.seed(0), 1442695040888963407L);
        Due.by("No farms.");
        DykeFarms none = new DykeFarms();
        Due.is("winters(20) of no farms", none.winters(20), 0);
        Due.holds("THE SEED changes with no farms", none.seed(0) != 0);
    }

    /** On a twin the same storms come as ACTS. */
    private static void wintersLossTogether() {
        Due.by("LOSS by all of them together");
        for (long first : SEEDS) {
            for (int m = 1; m <= 20; m++) {
                DykeFarms x = Due.dyke("DF93030F61011F72052F93092F93041I0I2");
                DykeFarms twin = Due.dyke("DF93030F61011F72052F93092F93041I0I2");
                x.seed(first);
                BigInteger seed = BigInteger.valueOf(first);
                int due = 0;
                for (int i = 0; i < m; i++) {
                    seed = next(seed);
                    due += twin.storm(stormOf(seed));
                }
                Due.is("winters(" + m + ") from " + first, x.winters(m), due);
                Due.is("farm(2, 0) behind it", x.farm(2, 0), 7);
            }
        }
    }
}
