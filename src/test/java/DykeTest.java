/** Promises 1 to 8. */
public final class DykeTest {
    private static final String SIX = "DF10210F20321F31432F42543F53650F60761";

    public static void main(String[] args) {
        constants();
        newObject();
        write();
        wipe();
        faultsOfFarms();
        faultsOfDams();
        dyke();
        dykeRefused();
        about();
        farm();
        owes();
        Due.end();
    }

    private static void constants() {
        Due.is("UNKNOWN", DykeFarms.UNKNOWN, -1);
        Due.is("BAD", DykeFarms.BAD, -2);
        Due.is("LATE", DykeFarms.LATE, -3);
        Due.is("FULL", DykeFarms.FULL, -4);
        Due.is("NONE", DykeFarms.NONE, -9);
    }

    private static void newObject() {
        DykeFarms x = new DykeFarms();
        for (int what = 0; what <= 6; what++) {
            Due.is("new: about(" + what + ")", x.about(what), 0);
        }
        Due.is("new: farm(0, 0)", x.farm(0, 0), -1);
        Due.is("new: fault()", x.fault(), 0);
        Due.is("new: undo()", x.undo(), -3);
        Due.is("new: again(0)", x.again(0), -3);
        Due.is("new: again(1)", x.again(1), -3);
        Due.is("new: seed(3)", x.seed(3), 0);
        Due.is("new: all()", x.all(), -9);
        Due.is("new: payings()", x.payings(), 0);
        Due.is("new: needs(20)", x.needs(20), 0);
        Due.is("new: dam(0)", x.dam(0), -1);
        Due.is("new: dam(-1)", x.dam(-1), -1);
    }

    private static void write() {
        DykeFarms x = new DykeFarms();
        Due.is("write(0)", x.write(0), 1);
        Due.is("write(255)", x.write(255), 2);
        Due.is("write(-1)", x.write(-1), -2);
        Due.is("write(256)", x.write(256), -2);
        Due.is("write(min)", x.write(Integer.MIN_VALUE), -2);
        Due.is("write(max)", x.write(Integer.MAX_VALUE), -2);
        Due.is("refused letters are not written", x.about(6), 2);
        for (int i = 3; i <= 48; i++) {
            Due.is("write " + i, x.write('F'), i);
        }
        Due.is("write to a full text", x.write('F'), -4);
        Due.is("BAD is told ahead of FULL", x.write(256), -2);
        Due.is("a full text stays", x.about(6), 48);
    }

    private static void wipe() {
        DykeFarms x = Due.dyke("DF10210");
        Due.is("wipe()", x.wipe(), 7);
        Due.is("wiped: about(6)", x.about(6), 0);
        Due.is("wiped: the dyke stays", x.about(0), 1);
        Due.is("wipe() of nothing", x.wipe(), 0);
        Due.is("wiped: fault()", x.fault(), 0);
        Due.write(x, "D");
        Due.is("written anew: fault()", x.fault(), -9);
    }

    private static void fault(String text, int due) {
        Due.is("fault() of " + text, Due.text(text).fault(), due);
    }

    private static void faultsOfFarms() {
        fault("", 0);
        fault("X", 0);
        fault("d", 0);
        fault("F00000", 0);
        fault("D", -9);
        fault("DX", 1);
        fault("DD", 1);
        fault("Df", 1);
        fault("D\u0000", 1);
        fault("D\u00ff", 1);
        fault("DF", 2);
        fault("DF/", 2);
        fault("DF:", 2);
        fault("DFF", 2);
        fault("DF9", 3);
        fault("DF93", 4);
        fault("DF94", 3);
        fault("DF939", 5);
        fault("DF93:", 4);
        fault("DF9399", 6);
        fault("DF939 ", 5);
        fault("DF93993", -9);
        fault("DF93994", 6);
        fault("DF93993X", 7);
        fault("DF939930", 7);
        fault("DF93993D", 7);
        fault("DF93993F", 8);
        fault("DX F00", 1);
        fault(SIX, -9);
        fault(SIX + "F", 37);
        fault(SIX + "F00000", 37);
        fault(SIX.substring(0, 36), 36);
    }

    private static void faultsOfDams() {
        fault("DI", 1);
        fault("DI0", 1);
        fault("DF93993I", 7);
        fault("DF93993I0", 7);
        fault("DF00000F00000I", 14);
        fault("DF00000F00000I0", -9);
        fault("DF00000F00000I1", 14);
        fault("DF00000F00000II", 14);
        fault("DF00000F00000I/", 14);
        fault("DF00000F00000I9", 14);
        fault("DF00000F00000I00", 15);
        fault("DF00000F00000I0I", 15);
        fault("DF00000F00000I0I0", 15);
        fault("DF00000F00000I0F00000I1", -9);
        fault("DF00000F00000I0F00000I", 22);
        fault("DF00000F00000I0F00000I0", 22);
        fault("DF00000F00000I0F00000I2", 22);
        fault(SIX + "I4I3I2I1I0", -9);
        fault(SIX + "I5", 38);
        fault(SIX + "I4I3I2I1", -9);
        fault(SIX + "I4I3I2I1I", 46);
        fault(SIX + "I4I3I2I1I1", 46);
        fault(SIX + "I4I3I2I1I0I", 47);
        fault(SIX + "I4I3I2I1I0F", 47);
        fault(SIX + "I4I3I2I1I0D", 47);
    }

    private static void dyke() {
        DykeFarms x = Due.dyke("DF10210F20321I0");
        Due.is("the text stays", x.about(6), 15);
        x.seed(77);
        x.lend(0, 1);
        x.stick(1);
        x.pull(0, 1);
        x.storm(20);
        x.keep(0);
        x.keep(1);
        Due.is("dyke() again", x.dyke(), 2);
        Due.is("anew: no acts", x.about(5), 0);
        Due.is("anew: undo()", x.undo(), -3);
        Due.is("anew: what was kept is gone (0)", x.again(0), -3);
        Due.is("anew: what was kept is gone (1)", x.again(1), -3);
        Due.is("anew: no spades", x.about(2), 0);
        Due.is("anew: the tide", x.about(3), 0);
        Due.is("anew: nothing is owed", x.owes(1, 0), 0);
        Due.is("anew: clay", x.about(4), 5);
        Due.is("anew: height", x.farm(1, 0), 2);
        Due.is("anew: keeper", x.farm(1, 5), 1);
        Due.is("anew: dams", x.about(1), 1);
        Due.is("anew: the seed stays", x.seed(0), 77);
        x.wipe();
        Due.write(x, "D");
        Due.is("dyke() of no farms", x.dyke(), 0);
        Due.is("no farms", x.about(0), 0);
        Due.is("no dams", x.about(1), 0);
        Due.is("no clay", x.about(4), 0);
        Due.is("no farm 0", x.farm(0, 0), -1);
    }

    private static void dykeRefused() {
        DykeFarms x = Due.dyke("DF10210F20321I0");
        x.lend(0, 1);
        x.storm(20);
        x.keep(1);
        x.write('F');
        Due.is("dyke() of a text with a fault", x.dyke(), -3);
        Due.is("refused: farms", x.about(0), 2);
        Due.is("refused: acts", x.about(5), 2);
        Due.is("refused: spades", x.about(2), 3);
        Due.is("refused: the tide", x.about(3), 1);
        Due.is("refused: what is owed", x.owes(1, 0), 1);
        Due.is("refused: what was kept", x.again(1), 1);
        Due.is("dyke() of an empty text", new DykeFarms().dyke(), -3);
    }

    private static void about() {
        DykeFarms x = Due.dyke("DF10210F20321F31432I1");
        x.stick(0);
        x.stick(2);
        x.storm(0);
        Due.is("about(0)", x.about(0), 3);
        Due.is("about(1)", x.about(1), 2);
        Due.is("about(2)", x.about(2), 5);
        Due.is("about(3)", x.about(3), 1);
        Due.is("about(4)", x.about(4), 9);
        Due.is("about(5)", x.about(5), 3);
        Due.is("about(6)", x.about(6), 21);
        Due.is("about(7)", x.about(7), -2);
        Due.is("about(-1)", x.about(-1), -2);
    }

    private static void farm() {
        DykeFarms x = Due.dyke("DF53410F53421F53432F53443");
        int[] strengths = {8, 5, 11, 10};
        for (int i = 0; i < 4; i++) {
            Due.is("height of " + i, x.farm(i, 0), 5);
            Due.is("grass of " + i, x.farm(i, 1), 3);
            Due.is("clay of " + i, x.farm(i, 2), 4);
            Due.is("worth of " + i, x.farm(i, 3), i + 1);
            Due.is("kind of " + i, x.farm(i, 4), i);
            Due.is("keeper of " + i, x.farm(i, 5), i);
            Due.is("strength of " + i, x.farm(i, 6), strengths[i]);
        }
        Due.is("farm(4, 0)", x.farm(4, 0), -1);
        Due.is("farm(-1, 0)", x.farm(-1, 0), -1);
        Due.is("farm(0, 7)", x.farm(0, 7), -2);
        Due.is("farm(0, -1)", x.farm(0, -1), -2);
        Due.is("farm(4, 7): UNKNOWN ahead of BAD", x.farm(4, 7), -1);
        x.storm(20);
        int[] broken = {3, 0, 6, 5};
        for (int i = 0; i < 4; i++) {
            Due.is("strength when broken, of " + i, x.farm(i, 6), broken[i]);
        }
    }

    private static void owes() {
        DykeFarms x = Due.dyke("DF00200F00200");
        x.lend(0, 1);
        x.lend(0, 1);
        x.lend(1, 0);
        Due.is("owes(1, 0)", x.owes(1, 0), 2);
        Due.is("owes(0, 1)", x.owes(0, 1), 1);
        Due.is("owes(0, 0)", x.owes(0, 0), 0);
        Due.is("owes(2, 0)", x.owes(2, 0), -1);
        Due.is("owes(0, 2)", x.owes(0, 2), -1);
        Due.is("owes(-1, 0)", x.owes(-1, 0), -1);
        Due.is("owes(0, -1)", x.owes(0, -1), -1);
    }
}
