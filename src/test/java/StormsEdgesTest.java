import java.util.Random;

/** The edges of what is told of storms ahead: promises 16 to 23, sentence by sentence. */
public final class StormsEdgesTest {
    private static final String THREE_DAMMED = "DF00010F00010F00010I0I1";

    public static void main(String[] args) {
        nothingIsChanged();
        noFarms();
        leastAndGreatestStorm();
        needsJust();
        fifteenDoesNotCount();
        placingOfLoads();
        placingHoldsAsItIs();
        placingOfLikeOnes();
        placingOfLeastLoss();
        allOfLikeOnes();
        allBrokenAlone();
        toldOneToFive();
        toldFigures();
        toldFirst();
        toldGoes();
        toldLeft();
        toldAsActs();
        wetByNothing();
        wetByAll();
        wetNone();
        Due.end();
    }

    private static void story(DykeFarms x) {
        Due.write(x, "DF93950F90041F21332F00103I1");
        x.dyke();
        x.carry(0, 3);
        x.lend(0, 3);
        x.keep(0);
        x.storm(9);
        x.pull(3, 2);
        x.seed(123);
        x.dam(2);
    }

    private static void nothingIsChanged() {
        Due.by("In what follows nothing is changed.");
        for (int storm = 0; storm <= 20; storm += 5) {
            int asked = storm;
            Twins.same("each question by " + storm, StormsEdgesTest::story, x -> {
                x.breaks(asked);
                x.drowns(asked);
                x.loss(asked);
                x.needs(asked);
                x.placing(3 * asked, asked, 0);
                x.placing(3 * asked, asked, 1);
                x.all();
                x.told(1, 2, 100L * asked + 9, 0);
                x.told(1, 2, 100L * asked + 9, 1);
                x.told(1, 2, 100L * asked + 9, 2);
            });
        }
        for (int lands = 0; lands < 16; lands++) {
            int asked = lands;
            Twins.same("wet(" + lands + ", 0 .. 2)", StormsEdgesTest::story, x -> {
                x.wet(asked, 0);
                x.wet(asked, 1);
                x.wet(asked, 2);
            });
        }
    }

    private static void noFarms() {
        Due.by("No farms.");
        DykeFarms x = new DykeFarms();
        for (int storm = 0; storm <= 20; storm += 20) {
            Due.is("breaks(" + storm + ")", x.breaks(storm), 0);
            Due.is("drowns(" + storm + ")", x.drowns(storm), 0);
            Due.is("loss(" + storm + ")", x.loss(storm), 0);
            Due.is("needs(" + storm + ")", x.needs(storm), 0);
            Due.is("placing(60, " + storm + ", 0)", x.placing(60, storm, 0), 0);
            Due.is("placing(60, " + storm + ", 1)", x.placing(60, storm, 1), 0);
        }
        Due.is("wet(0, 0)", x.wet(0, 0), 1);
        Due.is("wet(0, 1)", x.wet(0, 1), 0);
        Due.is("wet(0, 2)", x.wet(0, 2), 0);
        Due.by("ALL: NONE: there is none.");
        Due.is("all()", x.all(), -9);
        Due.is("all() of one", Due.dyke("DF00000").all(), 0);
    }

    private static void leastAndGreatestStorm() {
        Due.by("A STORM of x (0 .. 20)");
        DykeFarms x = Due.dyke("DF00010F00020F93942I0I1");
        Due.is("breaks(0)", x.breaks(0), 0);
        Due.is("drowns(0)", x.drowns(0), 0);
        Due.is("loss(0)", x.loss(0), 0);
        Due.is("needs(0)", x.needs(0), 0);
        Due.is("placing(0, 0, 0)", x.placing(0, 0, 0), 0);
        Due.is("placing(0, 0, 1)", x.placing(0, 0, 1), 7);
        Due.is("breaks(20)", x.breaks(20), 7);
        Due.is("drowns(20)", x.drowns(20), 7);
        Due.is("loss(20)", x.loss(20), 7);
        Due.is("needs(20)", x.needs(20), 45);
        Due.is("placing(45, 20, 0)", x.placing(45, 20, 0), 0);
        Due.is("placing(44, 20, 0)", x.placing(44, 20, 0), 1);
        Due.by("BREAKS, if x is more than its STRENGTH");
        Due.is("breaks(15)", x.breaks(15), 3);
        Due.is("breaks(16)", x.breaks(16), 7);
        Due.is("breaks(1)", x.breaks(1), 3);
    }

    private static void needsJust() {
        Due.by("NEEDS: the least CLAY by which no STRETCH BREAKS in a STORM of x");
        DykeFarms x = Due.dyke("DF53000F53001F53002F53003");
        // strengths 8, 5, 11, 10
        int[][] due = {{0, 0}, {5, 0}, {6, 1}, {8, 3}, {9, 1 + 4}, {10, 2 + 5}, {11, 3 + 6 + 1}, {12, 4 + 7 + 1 + 2},
                {20, 12 + 15 + 9 + 10}};
        for (int[] row : due) {
            Due.is("needs(" + row[0] + ")", x.needs(row[0]), row[1]);
        }
        Due.is("needs(20) of six 0 high", Due.dyke("DF00000F00000F00000F00000F00000F00000").needs(20), 120);
    }

    private static void fifteenDoesNotCount() {
        DykeFarms x = Due.dyke("DF90910F00010I0");
        for (int i = 0; i < 6; i++) {
            x.carry(0, 0);
        }
        Due.by("NEEDS (15 does not count here)");
        Due.is("needs(15) of 15 high", x.needs(15), 15);
        Due.is("needs(16) of 15 high", x.needs(16), 1 + 16);
        Due.is("needs(20) of 15 high", x.needs(20), 5 + 20);
        Due.by("PLACING (15 does not count here)");
        int[][] due = {{0, 2, 0}, {4, 2, 0}, {5, 1, 1}, {19, 1, 1}, {20, 1, 1}, {24, 1, 1}, {25, 0, 3}};
        placing(x, 20, due);
    }

    /** Rows of loads, of what is lost by them, and of the stretches that hold. */
    private static void placing(DykeFarms x, int storm, int[][] due) {
        for (int[] row : due) {
            Due.is("placing(" + row[0] + ", " + storm + ", 0)", x.placing(row[0], storm, 0), row[1]);
            Due.is("placing(" + row[0] + ", " + storm + ", 1)", x.placing(row[0], storm, 1), row[2]);
        }
    }

    private static void placingOfLoads() {
        Due.by("PLACING of n loads (0 .. 60): together by n loads or fewer");
        DykeFarms x = Due.dyke(THREE_DAMMED);
        placing(x, 20, new int[][] {{0, 3, 0}, {1, 3, 0}, {19, 3, 0}, {20, 2, 1}, {21, 2, 1}, {39, 2, 1}, {40, 1, 3},
                {59, 1, 3}, {60, 0, 7}});
        Due.is("placing(61, 20, 0)", x.placing(61, 20, 0), -2);
        Due.is("placing(-1, 20, 0)", x.placing(-1, 20, 0), -2);
        Due.by("some STRETCHES are made just strong enough");
        placing(Due.dyke("DF00010F00010"), 1, new int[][] {{0, 2, 0}, {1, 2, 0}, {2, 0, 3}, {60, 0, 3}});
    }

    private static void placingHoldsAsItIs() {
        Due.by("one that holds as it is needs none");
        DykeFarms x = Due.dyke("DF50010F00010F90010I0I1");
        placing(x, 5, new int[][] {{0, 1, 5}, {4, 1, 5}, {5, 0, 7}});
        placing(x, 6, new int[][] {{0, 2, 4}, {1, 1, 5}, {6, 1, 5}, {7, 0, 7}});
        placing(x, 0, new int[][] {{0, 0, 7}, {60, 0, 7}});
        placing(x, 10, new int[][] {{0, 3, 0}, {1, 2, 4}, {5, 2, 4}, {6, 1, 5}, {16, 0, 7}});
    }

    private static void placingOfLikeOnes() {
        Due.by("the STRETCHES that hold then (bits), of like ones by least CLAY");
        placing(Due.dyke("DF00010F10010F20010I0I1"), 3, new int[][] {{0, 3, 0}, {1, 2, 4}, {2, 2, 4}, {3, 1, 6},
                {4, 1, 6}, {5, 1, 6}, {6, 0, 7}});
        placing(Due.dyke("DF20010F10010F00010I0I1"), 3, new int[][] {{1, 2, 1}, {2, 2, 1}, {3, 1, 3}, {5, 1, 3}});
        placing(Due.dyke("DF00000F00000F10000I0"), 1, new int[][] {{0, 0, 4}, {1, 0, 4}, {60, 0, 4}});
        Due.by("of like ones by least CLAY, then the least by bits");
        placing(Due.dyke("DF00010F00020F00010F00020I0I1I2"), 1, new int[][] {{0, 6, 0}, {1, 4, 2}, {2, 2, 10},
                {3, 1, 11}, {4, 0, 15}});
        placing(Due.dyke("DF00010F00010F00010F00010F00010F00010I0I1I2I3I4"), 1, new int[][] {{1, 5, 1}, {2, 4, 3},
                {3, 3, 7}, {4, 2, 15}, {5, 1, 31}, {6, 0, 63}});
        // 2 loads at stretch 1, or 1 at each of 0 and 2: worth as much, and as much clay
        placing(Due.dyke("DF10010F00020F10010I0I1"), 2, new int[][] {{1, 3, 1}, {2, 2, 2}, {3, 1, 3}, {4, 0, 7}});
    }

    private static void placingOfLeastLoss() {
        Due.by("PLACING: the least LOSS then");
        placing(Due.dyke("DF00090F10050F10050I0I1"), 2, new int[][] {{0, 19, 0}, {1, 14, 2}, {2, 9, 6}, {3, 5, 3},
                {4, 0, 7}});
        // no dams: all but what is dammed off drowns till each of it holds
        placing(Due.dyke("DF00030F00030F00040I1"), 2, new int[][] {{1, 10, 0}, {2, 6, 4}, {3, 6, 4}, {4, 4, 3},
                {5, 4, 3}, {6, 0, 7}});
    }

    private static void allOfLikeOnes() {
        Due.by("ALL: the STRETCH that, BROKEN alone, drowns most worth; of like ones the least");
        Due.is("all() of two alike", Due.dyke("DF00050F00050I0").all(), 0);
        Due.is("all() where the last is worth more", Due.dyke("DF00050F00060I0").all(), 1);
        Due.is("all() where the first is worth more", Due.dyke("DF00060F00050I0").all(), 0);
        Due.is("all() of one sea", Due.dyke("DF00010F00090F00030").all(), 0);
        Due.is("all() of 3, 4 and 4", Due.dyke("DF00030F00040F00040I0I1").all(), 1);
        Due.is("all() of nothing worth", Due.dyke("DF00000F00000I0").all(), 0);
        Due.is("all() of 0 and 1", Due.dyke("DF00000F00010I0").all(), 1);
        Due.is("all() of six", Due.dyke("DF00090F00090F00090F00090F00090F00090I0I1I2I3").all(), 4);
    }

    private static void allBrokenAlone() {
        Due.by("ALL: BROKEN alone");
        // the others are weak, the most worth is behind the strongest
        Due.is("all() of a strong one", Due.dyke("DF00010F93992F00010I0I1").all(), 1);
        Due.is("all() of two together", Due.dyke("DF00080F00050F00050I0").all(), 1);
    }

    private static void told(DykeFarms x, int n, long storms, int first, int goes, int left) {
        String call = "told(0, " + n + ", " + storms + ", ";
        Due.is(call + "0)", x.told(0, n, storms, 0), first);
        Due.is(call + "1)", x.told(0, n, storms, 1), goes);
        Due.is(call + "2)", x.told(0, n, storms, 2), left);
    }

    private static void toldOneToFive() {
        Due.by("TOLD STORMS: n (1 .. 5)");
        DykeFarms x = Due.dyke("DF50010");
        told(x, 1, 5, -9, -9, 4);
        told(x, 1, 6, 0, 0, 0);
        told(x, 2, 5, -9, -9, 4);
        told(x, 5, 5, -9, -9, 4);
        told(x, 5, 6, 4, 4, 0);
        Due.is("told(0, 0, 0, 0)", x.told(0, 0, 0, 0), -2);
        Due.is("told(0, 6, 0, 0)", x.told(0, 6, 0, 0), -2);
    }

    private static void toldFigures() {
        Due.by("each two figures (00 .. 20), one behind the other, the first one's the highest");
        DykeFarms x = Due.dyke("DF50010");
        told(x, 1, 0, -9, -9, 5);
        told(x, 1, 20, 0, 0, 0);
        told(x, 2, 2000, 0, 0, 0);
        told(x, 2, 20, 1, 1, 0);
        told(x, 5, 0, -9, -9, 5);
        told(x, 5, 2020202020L, 0, 0, 0);
        told(x, 5, 2000000000L, 0, 0, 0);
        told(x, 5, 20000000L, 1, 1, 0);
        told(x, 5, 200000L, 2, 2, 0);
        told(x, 5, 2000L, 3, 3, 0);
        told(x, 5, 20L, 4, 4, 0);
        Due.by("storms (0 or more, 2 n figures at most, each two 20 at most)");
        Due.is("told(0, 1, -1, 0)", x.told(0, 1, -1, 0), -2);
        for (int n = 1; n <= 5; n++) {
            long most = 0;
            long unit = 1;
            for (int i = 0; i < n; i++) {
                Due.is("told() of 21 at place " + i + " of " + n, x.told(0, n, 21 * unit, 0), -2);
                Due.is("told() of 99 at place " + i + " of " + n, x.told(0, n, 99 * unit, 0), -2);
                most += 20 * unit;
                unit *= 100;
            }
            Due.is("told() of all 20 of " + n, x.told(0, n, most, 0), 0);
            Due.is("told() of a figure more than " + 2 * n, x.told(0, n, unit, 0), -2);
        }
    }

    private static void toldFirst() {
        Due.by("FIRST: the first one (its place, from 0) by which something BREAKS; NONE");
        DykeFarms x = Due.dyke("DF93010F50010F60010");
        // 0 is 12 strong, 1 is 5, 2 is 6
        told(x, 3, 50412, 2, -9, 8);
        told(x, 3, 50403, -9, -9, 9);
        told(x, 3, 50505, 1, -9, 9);
        told(x, 3, 61212, 0, 2, 0);
        told(x, 3, 50607, 1, -9, 9);
        told(x, 5, 404040406L, 4, -9, 9);
        Due.is("a storm just as strong, twice", x.told(1, 2, 505, 0), 1);
        Due.is("a storm just as strong, then one lower", x.told(1, 2, 504, 0), -9);
    }

    private static void toldGoes() {
        Due.by("GOES: the first one (likewise) by which a told STRETCH BREAKS; NONE");
        DykeFarms x = Due.dyke("DF50010F60010F93012");
        Due.is("told(0, 3, 60700, 1)", x.told(0, 3, 60700, 1), 0);
        Due.is("told(1, 3, 60700, 1)", x.told(1, 3, 60700, 1), 1);
        Due.is("told(2, 3, 60700, 1)", x.told(2, 3, 60700, 1), -9);
        Due.is("told(0, 5, 5, 1)", x.told(0, 5, 5, 1), -9);
        Due.is("told(0, 5, 6, 1)", x.told(0, 5, 6, 1), 4);
        Due.is("told(0, 5, 504030201, 1)", x.told(0, 5, 504030201, 1), -9);
        Due.is("told(0, 5, 505000000, 1)", x.told(0, 5, 505000000, 1), 1);
        Due.is("told(2, 2, 1515, 1)", x.told(2, 2, 1515, 1), 1);
        Due.is("told(2, 2, 1514, 1)", x.told(2, 2, 1514, 1), -9);
    }

    private static void toldLeft() {
        Due.by("LEFT: the height of a STRETCH behind all.");
        DykeFarms x = Due.dyke("DF90010F00010F03010");
        Due.is("told(0, 5, 0908070605, 2)", x.told(0, 5, 908070605L, 2), 4);
        Due.is("told(0, 5, 0, 2)", x.told(0, 5, 0, 2), 9);
        Due.is("told(0, 5, 1000000000, 2)", x.told(0, 5, 1000000000L, 2), 0);
        Due.is("told(0, 5, 10, 2)", x.told(0, 5, 10, 2), 0);
        Due.is("told(1, 5, 0, 2), 0 at least", x.told(1, 5, 0, 2), 0);
        Due.is("told(2, 2, 303, 2), 0 at least", x.told(2, 2, 303, 2), 0);
        Due.is("told(2, 2, 303, 1), by its grass", x.told(2, 2, 303, 1), -9);
    }

    /** On a twin the same storms come as ACTS. */
    private static void toldAsActs() {
        Due.by("TOLD STORMS: n (1 .. 5), one behind the other");
        Random chance = new Random(5);
        for (int run = 0; run < 2000; run++) {
            StringBuilder text = new StringBuilder("D");
            for (int i = 0; i < 3; i++) {
                text.append('F').append(chance.nextInt(5)).append(chance.nextInt(3)).append("01")
                        .append(chance.nextInt(4));
            }
            DykeFarms x = Due.dyke(text.toString());
            DykeFarms twin = Due.dyke(text.toString());
            int n = 1 + chance.nextInt(5);
            int stretch = chance.nextInt(3);
            int first = -9;
            int goes = -9;
            long storms = 0;
            for (int i = 0; i < n; i++) {
                int storm = chance.nextInt(7);
                storms = 100 * storms + storm;
                int broken = twin.breaks(storm);
                first = first == -9 && broken != 0 ? i : first;
                goes = goes == -9 && (broken >> stretch & 1) == 1 ? i : goes;
                twin.storm(storm);
            }
            String call = "told(" + stretch + ", " + n + ", " + storms + ", ";
            Due.is(call + "0) of " + text, x.told(stretch, n, storms, 0), first);
            Due.is(call + "1) of " + text, x.told(stretch, n, storms, 1), goes);
            Due.is(call + "2) of " + text, x.told(stretch, n, storms, 2), twin.farm(stretch, 0));
        }
    }

    private static void wet(DykeFarms x, int lands, int many, int inAll, int inNone) {
        Due.is("wet(" + lands + ", 0)", x.wet(lands, 0), many);
        Due.is("wet(" + lands + ", 1)", x.wet(lands, 1), inAll);
        Due.is("wet(" + lands + ", 2)", x.wet(lands, 2), inNone);
    }

    private static void wetByNothing() {
        Due.by("WET: sets of STRETCHES (bits) by which, BROKEN, just told LANDS (bits) drown");
        StringBuilder text = new StringBuilder("D");
        for (int farms = 0; farms <= 6; farms++) {
            wet(Due.dyke(text.toString()), 0, 1, 0, (1 << farms) - 1);
            text.append("F93992");
        }
    }

    private static void wetByAll() {
        Due.by("WET: how many; which are in all; in none");
        StringBuilder text = new StringBuilder("D");
        StringBuilder dams = new StringBuilder();
        for (int farms = 1; farms <= 6; farms++) {
            text.append("F00000");
            int lands = (1 << farms) - 1;
            wet(Due.dyke(text.toString()), lands, lands, farms == 1 ? 1 : 0, 0);
            Due.is("wet() of lands that there are not", Due.dyke(text.toString()).wet(lands + 1, 0), -2);
            DykeFarms dammed = Due.dyke(text.toString() + dams);
            for (int some = 0; some <= lands; some++) {
                wet(dammed, some, 1, some, lands & ~some);
            }
            dams.append('I').append(farms - 1);
        }
        DykeFarms x = Due.dyke("DF00000F00000F00000F00000I0I2");
        // lands 0; 1 and 2 together; 3
        wet(x, 6, 3, 0, 9);
        wet(x, 7, 3, 1, 8);
        wet(x, 15, 3, 9, 0);
        wet(x, 9, 1, 9, 6);
        wet(x, 8, 1, 8, 7);
    }

    private static void wetNone() {
        Due.by("WET: NONE (of 1, 2)");
        DykeFarms x = Due.dyke("DF00000F00000F00000F00000I0I2");
        for (int lands : new int[] {2, 3, 4, 5, 10, 11, 12, 13}) {
            wet(x, lands, 0, -9, -9);
        }
        wet(Due.dyke("DF00000F00000"), 1, 0, -9, -9);
        wet(Due.dyke("DF00000F00000"), 2, 0, -9, -9);
    }
}
