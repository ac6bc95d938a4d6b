/** Promises 9 to 15. */
public final class ActsTest {
    public static void main(String[] args) {
        storm();
        stormAtTheEdges();
        carry();
        lend();
        stick();
        pull();
        dam();
        undoOfEach();
        undoOfMany();
        refusalsAreNoActs();
        Due.end();
    }

    private static void storm() {
        // strengths 5, 6, 8, 3; lands 1, 2, 4, 8; a dam between 1 and 2
        DykeFarms x = Due.dyke("DF50010F51020F51043F33081I1");
        Due.is("storm(6)", x.storm(6), 15);
        Due.is("a broken stretch is 0 high", x.farm(0, 0), 0);
        Due.is("one just as strong is 1 lower", x.farm(1, 0), 4);
        Due.is("a stronger one stays", x.farm(2, 0), 5);
        Due.is("the other broken one is 0 high", x.farm(3, 0), 0);
        Due.is("spades are stuck in what broke", x.about(2), 9);
        Due.is("the tide", x.about(3), 1);
        Due.is("the keeper stays", x.farm(0, 5), 0);
        Due.is("storm(0)", x.storm(0), 0);
        Due.is("a storm as strong as nothing leaves 0", x.farm(0, 0), 0);
        Due.is("storm(5) beside what is 0 high", x.storm(5), 15);
        Due.is("1 lower again", x.farm(1, 0), 3);
        Due.is("the tide goes on", x.about(3), 3);
        Due.is("storm(3)", x.storm(3), 15);
    }

    private static void stormAtTheEdges() {
        DykeFarms x = Due.dyke("DF02050");
        Due.is("grass alone holds", x.storm(2), 0);
        Due.is("0 at least", x.farm(0, 0), 0);
        Due.is("no spade where it held", x.about(2), 0);
        Due.is("storm(20)", x.storm(20), 5);
        Due.is("storm(21)", x.storm(21), -2);
        Due.is("storm(-1)", x.storm(-1), -2);
        Due.is("storm(min)", x.storm(Integer.MIN_VALUE), -2);
        Due.is("refused storms are no tide", x.about(3), 2);
        Due.is("refused storms are no acts", x.about(5), 2);
        x.pull(0, 0);
        x.stick(0);
        x.storm(20);
        Due.is("a spade stays stuck", x.about(2), 1);
        x.undo();
        Due.is("a spade stuck ahead of the storm stays", x.about(2), 1);
        DykeFarms none = new DykeFarms();
        Due.is("a storm at no farms", none.storm(20), 0);
        Due.is("is a tide", none.about(3), 1);
        Due.is("and an act", none.about(5), 1);
    }

    private static void carry() {
        DykeFarms x = Due.dyke("DF90900F00100");
        Due.is("carry(1, 0)", x.carry(1, 0), 10);
        Due.is("clay of who carried", x.farm(1, 2), 0);
        Due.is("clay of the stretch's farm", x.farm(0, 2), 9);
        Due.is("carry(1, 0) of none", x.carry(1, 0), -3);
        for (int i = 11; i <= 15; i++) {
            Due.is("carry to " + i, x.carry(0, 0), i);
        }
        Due.is("carry to 16", x.carry(0, 0), -4);
        Due.is("LATE is told ahead of FULL", x.carry(1, 0), -3);
        Due.is("clay is left when it is FULL", x.farm(0, 2), 4);
        Due.is("the height when it is FULL", x.farm(0, 0), 15);
        Due.is("carry(0, 1)", x.carry(0, 1), 1);
        Due.is("carry(2, 0)", x.carry(2, 0), -1);
        Due.is("carry(0, 2)", x.carry(0, 2), -1);
        Due.is("carry(-1, 0)", x.carry(-1, 0), -1);
        Due.is("carry(0, -1)", x.carry(0, -1), -1);
        Due.is("UNKNOWN is told ahead of LATE", x.carry(1, 2), -1);
        Due.is("acts", x.about(5), 7);
    }

    private static void lend() {
        DykeFarms x = Due.dyke("DF00200F00000F00000");
        Due.is("lend(0, 1)", x.lend(0, 1), 1);
        Due.is("lend(0, 1) again", x.lend(0, 1), 2);
        Due.is("lend(0, 1) of none", x.lend(0, 1), -3);
        Due.is("clay of the lender", x.farm(0, 2), 0);
        Due.is("clay of the other one", x.farm(1, 2), 2);
        Due.is("it owes", x.owes(1, 0), 2);
        Due.is("the lender does not", x.owes(0, 1), 0);
        Due.is("lend(1, 2) of what was lent", x.lend(1, 2), 1);
        Due.is("lend(1, 0) is no giving back", x.lend(1, 0), 1);
        Due.is("it owes as much", x.owes(1, 0), 2);
        Due.is("lend(0, 0)", x.lend(0, 0), -2);
        Due.is("lend(1, 1): BAD ahead of LATE", x.lend(1, 1), -2);
        Due.is("lend(3, 3): UNKNOWN ahead of BAD", x.lend(3, 3), -1);
        Due.is("lend(0, 3)", x.lend(0, 3), -1);
        Due.is("lend(3, 0)", x.lend(3, 0), -1);
        Due.is("lend(-1, 0)", x.lend(-1, 0), -1);
        Due.is("lend(0, -1)", x.lend(0, -1), -1);
        DykeFarms y = Due.dyke("DF00900F00900");
        for (int i = 0; i < 9; i++) {
            y.lend(0, 1);
        }
        Due.is("more loads than 9", y.farm(1, 2), 18);
    }

    private static void stick() {
        DykeFarms x = Due.dyke("DF00000F00000");
        Due.is("stick(1)", x.stick(1), 1);
        Due.is("its keeper keeps it", x.farm(1, 5), 1);
        Due.is("the spade", x.about(2), 2);
        Due.is("stick(1) again", x.stick(1), -3);
        x.pull(0, 1);
        Due.is("stick(1) by its new keeper", x.stick(1), 0);
        Due.is("stick(2)", x.stick(2), -1);
        Due.is("stick(-1)", x.stick(-1), -1);
        x.storm(1);
        Due.is("stick(0) where it broke", x.stick(0), -3);
    }

    private static void pull() {
        DykeFarms x = Due.dyke("DF00000F00000F00000");
        Due.is("pull(0, 1) of no spade", x.pull(0, 1), -3);
        x.stick(1);
        Due.is("pull(0, 1)", x.pull(0, 1), 1);
        Due.is("it keeps it", x.farm(1, 5), 0);
        Due.is("the spade is out", x.about(2), 0);
        Due.is("pull(2, 1) of no spade", x.pull(2, 1), -3);
        x.storm(1);
        Due.is("pull(2, 1) where it broke", x.pull(2, 1), 0);
        Due.is("pull(0, 0) by its keeper", x.pull(0, 0), 0);
        Due.is("the other spade stays", x.about(2), 4);
        Due.is("pull(3, 2)", x.pull(3, 2), -1);
        Due.is("pull(0, 3)", x.pull(0, 3), -1);
        Due.is("pull(-1, 2)", x.pull(-1, 2), -1);
        Due.is("pull(0, -1)", x.pull(0, -1), -1);
        Due.is("pull(3, 0): UNKNOWN ahead of LATE", x.pull(3, 0), -1);
    }

    private static void dam() {
        DykeFarms x = Due.dyke("DF00010F00020F00040I1");
        Due.is("dam(0) is built", x.dam(0), 1);
        Due.is("dam(1) is torn down", x.dam(1), 0);
        Due.is("the dams", x.about(1), 1);
        Due.is("dam(1) is built anew", x.dam(1), 1);
        Due.is("the dams then", x.about(1), 3);
        Due.is("dam(2), behind the last", x.dam(2), -1);
        Due.is("dam(3)", x.dam(3), -1);
        Due.is("dam(-1)", x.dam(-1), -1);
        Due.is("dam(0) of one farm", Due.dyke("DF00000").dam(0), -1);
    }

    private static void undoOfEach() {
        DykeFarms x = Due.dyke("DF50210F10120");
        x.storm(5);
        Due.is("undo() of a storm", x.undo(), 0);
        Due.is("the height where it was as strong", x.farm(0, 0), 5);
        Due.is("the height where it broke", x.farm(1, 0), 1);
        Due.is("the spade", x.about(2), 0);
        Due.is("the tide", x.about(3), 0);
        x.carry(0, 1);
        Due.is("undo() of clay carried", x.undo(), 0);
        Due.is("the clay", x.farm(0, 2), 2);
        Due.is("the height", x.farm(1, 0), 1);
        x.lend(0, 1);
        Due.is("undo() of clay lent", x.undo(), 0);
        Due.is("the lender's clay", x.farm(0, 2), 2);
        Due.is("the other's clay", x.farm(1, 2), 1);
        Due.is("what it owes", x.owes(1, 0), 0);
        x.stick(0);
        Due.is("undo() of a spade stuck in", x.undo(), 0);
        Due.is("no spade", x.about(2), 0);
        x.stick(0);
        x.pull(1, 0);
        Due.is("undo() of a spade pulled out", x.undo(), 1);
        Due.is("it is stuck in", x.about(2), 1);
        Due.is("the keeper before", x.farm(0, 5), 0);
        x.dam(0);
        Due.is("undo() of a dam", x.undo(), 1);
        Due.is("no dam", x.about(1), 0);
        Due.is("undo() of the first", x.undo(), 0);
        Due.is("undo() of none", x.undo(), -3);
    }

    private static void undoOfMany() {
        DykeFarms x = Due.dyke("DF00900F00900");
        for (int i = 1; i <= 18; i++) {
            x.carry(i % 2, i % 2);
            Due.is("acts after " + i, x.about(5), Math.min(i, 14));
        }
        Due.is("height of 0", x.farm(0, 0), 9);
        for (int left = 13; left >= 0; left--) {
            Due.is("undo() to " + left, x.undo(), left);
            Due.is("clay then", x.about(4), 14 - left);
        }
        Due.is("undo() of what is forgotten", x.undo(), -3);
        Due.is("the first four stay", x.about(4), 14);
        Due.is("height of 0 then", x.farm(0, 0), 2);
        x.dam(0);
        Due.is("an act behind them", x.about(5), 1);
        Due.is("is undone", x.undo(), 0);
        Due.is("by itself", x.about(4), 14);
    }

    private static void refusalsAreNoActs() {
        DykeFarms x = Due.dyke("DF00000F00000");
        x.storm(21);
        x.carry(0, 0);
        x.carry(2, 0);
        x.lend(0, 1);
        x.lend(0, 0);
        x.stick(2);
        x.pull(0, 0);
        x.dam(1);
        Due.is("refused: acts", x.about(5), 0);
        Due.is("refused: undo()", x.undo(), -3);
        x.stick(0);
        x.stick(0);
        Due.is("an act and a refused one", x.about(5), 1);
    }
}
