/** Promises 31 and 32. */
public final class SlotsTest {
    private static final String TEXT = "DF50210F10120F30330I1";

    public static void main(String[] args) {
        keep();
        again();
        allThatIsKept();
        refused();
        Due.end();
    }

    private static void keep() {
        DykeFarms x = Due.dyke(TEXT);
        x.storm(0);
        x.storm(0);
        Due.is("keep(0)", x.keep(0), 2);
        Due.is("acts stay", x.about(5), 2);
        Due.is("they can be undone", x.undo(), 1);
        Due.is("keep(1)", x.keep(1), 1);
        Due.is("again(0)", x.again(0), 2);
        Due.is("again(1)", x.again(1), 1);
        x.storm(0);
        x.storm(0);
        Due.is("keep(1) anew", x.keep(1), 3);
        Due.is("again(0) is as it was", x.again(0), 2);
        Due.is("again(1) is the newer one", x.again(1), 3);
    }

    private static void again() {
        DykeFarms x = Due.dyke(TEXT);
        x.dam(0);
        x.keep(0);
        x.dam(0);
        x.storm(9);
        Due.is("again(0)", x.again(0), 0);
        Due.is("no acts", x.about(5), 0);
        Due.is("undo()", x.undo(), -3);
        Due.is("the text stays", x.about(6), TEXT.length());
        x.dam(0);
        Due.is("an act behind it", x.undo(), 0);
        Due.is("is undone to it", x.about(1), 3);
        x.storm(20);
        Due.is("again(0) once more", x.again(0), 0);
        Due.is("heights once more", x.farm(0, 0), 5);
    }

    private static void allThatIsKept() {
        DykeFarms x = Due.dyke(TEXT);
        x.storm(3);
        x.stick(0);
        x.pull(2, 1);
        x.lend(2, 0);
        x.carry(0, 1);
        x.dam(0);
        x.seed(5);
        x.keep(1);
        x.storm(20);
        x.pull(1, 0);
        x.pull(1, 1);
        x.pull(1, 2);
        x.lend(2, 0);
        x.carry(0, 0);
        x.dam(0);
        x.dam(1);
        x.seed(6);
        Due.is("again(1)", x.again(1), 1);
        Due.is("heights", x.farm(0, 0) * 100 + x.farm(1, 0) * 10 + x.farm(2, 0), 512);
        Due.is("clay", x.farm(0, 2) * 100 + x.farm(1, 2) * 10 + x.farm(2, 2), 212);
        Due.is("keepers", x.farm(0, 5) * 100 + x.farm(1, 5) * 10 + x.farm(2, 5), 22);
        Due.is("spades", x.about(2), 1);
        Due.is("dams", x.about(1), 3);
        Due.is("what is owed", x.owes(0, 2), 1);
        Due.is("the tide", x.about(3), 1);
        Due.is("the seed is not kept", x.seed(0), 6);
    }

    private static void refused() {
        DykeFarms x = Due.dyke(TEXT);
        Due.is("again(0) of nothing", x.again(0), -3);
        x.keep(1);
        x.stick(0);
        Due.is("again(0) of nothing still", x.again(0), -3);
        Due.is("refused: the acts stay", x.about(5), 1);
        for (int slot : new int[] {-1, 2, 32, Integer.MIN_VALUE, Integer.MAX_VALUE}) {
            Due.is("keep(" + slot + ")", x.keep(slot), -1);
            Due.is("again(" + slot + ")", x.again(slot), -1);
        }
        DykeFarms none = new DykeFarms();
        Due.is("keep(0) of no farms", none.keep(0), 0);
        Due.is("again(0) of no farms", none.again(0), 0);
    }
}
