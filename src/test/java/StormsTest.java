/** Promises 16 to 23. */
public final class StormsTest {
    public static void main(String[] args) {
        breaksDrownsLoss();
        needs();
        placing();
        placingOfLikeOnes();
        placingRefused();
        all();
        told();
        toldRefused();
        wet();
        nothingChanges();
        Due.end();
    }

    private static void breaksDrownsLoss() {
        // strengths 5, 6, 8, 3, 9; lands 1, 2, 4, 8, 9; dams behind 1 and 3
        DykeFarms x = Due.dyke("DF50010F51020F51043F33081F90090I1I3");
        int[][] due = {{0, 0, 0, 0}, {3, 0, 0, 0}, {4, 8, 12, 12}, {5, 8, 12, 12}, {6, 9, 15, 15},
                {7, 11, 15, 15}, {8, 11, 15, 15}, {9, 15, 15, 15}, {10, 31, 31, 24}, {20, 31, 31, 24}};
        for (int[] row : due) {
            Due.is("breaks(" + row[0] + ")", x.breaks(row[0]), row[1]);
            Due.is("drowns(" + row[0] + ")", x.drowns(row[0]), row[2]);
            Due.is("loss(" + row[0] + ")", x.loss(row[0]), row[3]);
        }
        for (int bad : new int[] {-1, 21, Integer.MIN_VALUE, Integer.MAX_VALUE}) {
            Due.is("breaks(" + bad + ")", x.breaks(bad), -2);
            Due.is("drowns(" + bad + ")", x.drowns(bad), -2);
            Due.is("loss(" + bad + ")", x.loss(bad), -2);
            Due.is("needs(" + bad + ")", x.needs(bad), -2);
        }
        DykeFarms y = Due.dyke("DF90010F90020F00030F90040F90050");
        Due.is("drowns on both sides", y.drowns(1), 31);
        y.dam(0);
        Due.is("as far as there is no dam", y.drowns(1), 30);
        y.dam(2);
        Due.is("on both sides", y.drowns(1), 6);
        Due.is("what it is worth", y.loss(1), 5);
    }

    private static void needs() {
        DykeFarms x = Due.dyke("DF50010F51020F51043F33081");
        Due.is("needs(3)", x.needs(3), 0);
        Due.is("needs(4)", x.needs(4), 1);
        Due.is("needs(7)", x.needs(7), 7);
        Due.is("needs(20), 15 high or not", x.needs(20), 15 + 14 + 12 + 17);
        Due.is("needs(0)", x.needs(0), 0);
    }

    private static void placing() {
        // strengths 5, 6, 8, 3; lands 1, 2, 4, 8; a dam between 1 and 2
        DykeFarms x = Due.dyke("DF50010F51020F51043F33081I1");
        int[][] due = {{0, 7, 15, 4}, {1, 7, 15, 4}, {2, 7, 15, 4}, {3, 7, 12, 7}, {4, 7, 3, 12},
                {5, 7, 3, 12}, {6, 7, 3, 12}, {7, 7, 0, 15}, {60, 7, 0, 15},
                {0, 0, 0, 15}, {60, 0, 0, 15}, {0, 4, 12, 7}, {1, 4, 0, 15},
                {57, 20, 3, 12}, {58, 20, 0, 15}, {60, 20, 0, 15}};
        for (int[] row : due) {
            String call = "placing(" + row[0] + ", " + row[1];
            Due.is(call + ", 0)", x.placing(row[0], row[1], 0), row[2]);
            Due.is(call + ", 1)", x.placing(row[0], row[1], 1), row[3]);
        }
    }

    private static void placingOfLikeOnes() {
        DykeFarms x = Due.dyke("DF00010F00010F00010I0I1");
        Due.is("like ones: the least by bits", x.placing(1, 1, 1), 1);
        Due.is("like ones, two of them", x.placing(2, 1, 1), 3);
        Due.is("what is lost then", x.placing(2, 1, 0), 1);
        DykeFarms y = Due.dyke("DF00010F10010F20010I0I1");
        Due.is("like ones: by least clay", y.placing(2, 3, 1), 4);
        Due.is("like ones: the cheapest two", y.placing(5, 3, 1), 6);
        DykeFarms z = Due.dyke("DF00000F90000F00000");
        Due.is("nothing to lose: no clay is put", z.placing(60, 9, 1), 2);
        Due.is("nothing to lose", z.placing(60, 9, 0), 0);
        DykeFarms w = Due.dyke("DF00030F00040");
        Due.is("half of it is no help", w.placing(1, 1, 1), 0);
        Due.is("half of it saves nothing", w.placing(1, 1, 0), 7);
        Due.is("all of it", w.placing(2, 1, 1), 3);
    }

    private static void placingRefused() {
        DykeFarms x = Due.dyke("DF00030");
        Due.is("placing(-1, 0, 0)", x.placing(-1, 0, 0), -2);
        Due.is("placing(61, 0, 0)", x.placing(61, 0, 0), -2);
        Due.is("placing(0, -1, 0)", x.placing(0, -1, 0), -2);
        Due.is("placing(0, 21, 0)", x.placing(0, 21, 0), -2);
        Due.is("placing(0, 0, -1)", x.placing(0, 0, -1), -2);
        Due.is("placing(0, 0, 2)", x.placing(0, 0, 2), -2);
        Due.is("placing(20, 20, 1)", x.placing(20, 20, 1), 1);
        Due.is("placing(19, 20, 1)", x.placing(19, 20, 1), 0);
    }

    private static void all() {
        DykeFarms x = Due.dyke("DF00030F00040F00070I1");
        Due.is("all(), of like ones the least", x.all(), 0);
        x.dam(0);
        Due.is("all() behind dams", x.all(), 2);
        Due.is("all() where nothing is worth", Due.dyke("DF00000F00000").all(), 0);
        Due.is("all() of no farms", Due.dyke("D").all(), -9);
        Due.is("all() of strong ones too", Due.dyke("DF00010F93990I0").all(), 1);
    }

    private static void told() {
        // strengths 6, 4, 9
        DykeFarms x = Due.dyke("DF51010F40010F72010");
        Due.is("told(0, 3, 040506, 0)", x.told(0, 3, 40506, 0), 1);
        Due.is("told(0, 3, 040506, 1)", x.told(0, 3, 40506, 1), -9);
        Due.is("told(0, 3, 040506, 2)", x.told(0, 3, 40506, 2), 4);
        Due.is("told(1, 3, 040506, 1)", x.told(1, 3, 40506, 1), 1);
        Due.is("told(1, 3, 040404, 1): 4, then 3", x.told(1, 3, 40404, 1), 1);
        Due.is("told(1, 1, 4, 0)", x.told(1, 1, 4, 0), -9);
        Due.is("told(1, 1, 4, 2)", x.told(1, 1, 4, 2), 3);
        Due.is("told(1, 5, 0, 0)", x.told(1, 5, 0, 0), -9);
        Due.is("told(1, 5, 5, 0): the last one", x.told(1, 5, 5, 0), 4);
        Due.is("told(1, 5, 5, 1)", x.told(1, 5, 5, 1), 4);
        Due.is("told(2, 5, 2020202020, 1)", x.told(2, 5, 2020202020L, 1), 0);
        Due.is("told(2, 5, 0900000010, 1)", x.told(2, 5, 900000010L, 1), 4);
        Due.is("told(2, 5, 0900000010, 2)", x.told(2, 5, 900000010L, 2), 0);
        Due.is("told(2, 5, 0900000008, 2): 9, then 8", x.told(2, 5, 900000008L, 2), 5);
        Due.is("told(2, 2, 1003, 2): broken, grass stays", x.told(2, 2, 1003, 2), 0);
        Due.is("told(2, 2, 1002, 1)", x.told(2, 2, 1002, 1), 0);
        Due.is("FIRST is of any stretch", x.told(2, 2, 507, 0), 0);
        Due.is("GOES is of the told one", x.told(0, 2, 507, 1), 1);
    }

    private static void toldRefused() {
        DykeFarms x = Due.dyke("DF51010");
        Due.is("told(1, 1, 0, 0)", x.told(1, 1, 0, 0), -1);
        Due.is("told(-1, 1, 0, 0)", x.told(-1, 1, 0, 0), -1);
        Due.is("told(1, 0, 0, 0): UNKNOWN ahead of BAD", x.told(1, 0, 0, 0), -1);
        Due.is("told(0, 0, 0, 0)", x.told(0, 0, 0, 0), -2);
        Due.is("told(0, 6, 0, 0)", x.told(0, 6, 0, 0), -2);
        Due.is("told(0, -1, 0, 0)", x.told(0, -1, 0, 0), -2);
        Due.is("told(0, 1, -1, 0)", x.told(0, 1, -1, 0), -2);
        Due.is("told(0, 1, min, 0)", x.told(0, 1, Long.MIN_VALUE, 0), -2);
        Due.is("told(0, 5, max, 0)", x.told(0, 5, Long.MAX_VALUE, 0), -2);
        Due.is("told(0, 1, 20, 0)", x.told(0, 1, 20, 0), 0);
        Due.is("told(0, 1, 21, 0)", x.told(0, 1, 21, 0), -2);
        Due.is("told(0, 1, 100, 0): three figures", x.told(0, 1, 100, 0), -2);
        Due.is("told(0, 2, 2120, 0)", x.told(0, 2, 2120, 0), -2);
        Due.is("told(0, 2, 2099, 0)", x.told(0, 2, 2099, 0), -2);
        Due.is("told(0, 5, 10000000000, 0)", x.told(0, 5, 10000000000L, 0), -2);
        Due.is("told(0, 1, 1L << 32, 0)", x.told(0, 1, 1L << 32, 0), -2);
        Due.is("told(0, 1, 0, -1)", x.told(0, 1, 0, -1), -2);
        Due.is("told(0, 1, 0, 3)", x.told(0, 1, 0, 3), -2);
    }

    private static void wet() {
        DykeFarms x = Due.dyke("DF00010F00010F00010I1");
        Due.is("wet(0, 0)", x.wet(0, 0), 1);
        Due.is("wet(0, 1)", x.wet(0, 1), 0);
        Due.is("wet(0, 2)", x.wet(0, 2), 7);
        Due.is("wet(3, 0)", x.wet(3, 0), 3);
        Due.is("wet(3, 1)", x.wet(3, 1), 0);
        Due.is("wet(3, 2)", x.wet(3, 2), 4);
        Due.is("wet(4, 0)", x.wet(4, 0), 1);
        Due.is("wet(4, 1)", x.wet(4, 1), 4);
        Due.is("wet(4, 2)", x.wet(4, 2), 3);
        Due.is("wet(7, 0)", x.wet(7, 0), 3);
        Due.is("wet(7, 1)", x.wet(7, 1), 4);
        Due.is("wet(7, 2)", x.wet(7, 2), 0);
        Due.is("wet(1, 0)", x.wet(1, 0), 0);
        Due.is("wet(1, 1)", x.wet(1, 1), -9);
        Due.is("wet(1, 2)", x.wet(1, 2), -9);
        Due.is("wet(8, 0)", x.wet(8, 0), -2);
        Due.is("wet(-1, 0)", x.wet(-1, 0), -2);
        Due.is("wet(min, 0)", x.wet(Integer.MIN_VALUE, 0), -2);
        Due.is("wet(0, 3)", x.wet(0, 3), -2);
        Due.is("wet(0, -1)", x.wet(0, -1), -2);
        DykeFarms six = Due.dyke("DF00000F00000F00000F00000F00000F00000");
        Due.is("wet(63, 0)", six.wet(63, 0), 63);
        Due.is("wet(64, 0)", six.wet(64, 0), -2);
    }

    private static void nothingChanges() {
        DykeFarms x = Due.dyke("DF51210F40120F72030");
        x.breaks(20);
        x.drowns(20);
        x.loss(20);
        x.needs(20);
        x.placing(60, 20, 0);
        x.all();
        x.told(0, 5, 2020202020L, 2);
        x.wet(7, 1);
        Due.is("heights stay", x.farm(0, 0) * 100 + x.farm(1, 0) * 10 + x.farm(2, 0), 547);
        Due.is("no acts", x.about(5), 0);
        Due.is("no tide", x.about(3), 0);
        Due.is("no spades", x.about(2), 0);
        Due.is("clay stays", x.about(4), 3);
    }
}
