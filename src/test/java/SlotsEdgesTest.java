/** The edges of SLOTS: promises 31 and 32, sentence by sentence. */
public final class SlotsEdgesTest {
    private static final String TEXT = "DF93950F90041F21332F00103I1";

    public static void main(String[] args) {
        nothingKeptYet();
        leastAndGreatestSlot();
        keepChangesNothing();
        eachThingThatIsKept();
        noActsWhenOneGoesOn();
        goneOnFromTwice();
        keptAnew();
        slotsApart();
        goneByTheDyke();
        notKept();
        Due.end();
    }

    private static void nothingKeptYet() {
        Due.by("again: LATE: none were kept");
        DykeFarms x = new DykeFarms();
        Due.is("again(0) of a new object", x.again(0), -3);
        Due.is("again(1) of a new object", x.again(1), -3);
        Due.by("They are kept: THE TIDE. [of no farms]");
        Due.is("keep(0) of no farms", x.keep(0), 0);
        Due.is("again(1) of no farms", x.again(1), -3);
        Due.is("again(0) of no farms", x.again(0), 0);
        x.storm(0);
        Due.is("keep(1) of no farms", x.keep(1), 1);
        Due.is("again(0) of no farms", x.again(0), 0);
        Due.is("about(3) of no farms", x.about(3), 0);
        Due.is("again(1) of no farms", x.again(1), 1);
        Due.is("about(3) of no farms", x.about(3), 1);
    }

    private static void leastAndGreatestSlot() {
        Due.by("SLOTS 0 .. 1");
        DykeFarms x = Due.dyke(TEXT);
        Due.is("keep(0)", x.keep(0), 0);
        Due.is("keep(1)", x.keep(1), 0);
        Due.is("keep(2)", x.keep(2), -1);
        Due.is("keep(-1)", x.keep(-1), -1);
        Due.is("again(0)", x.again(0), 0);
        Due.is("again(1)", x.again(1), 0);
        Due.is("again(2)", x.again(2), -1);
        Due.is("again(-1)", x.again(-1), -1);
    }

    private static void keepChangesNothing() {
        Due.by("They are kept: THE TIDE.");
        for (int slot = 0; slot <= 1; slot++) {
            int other = slot;
            Twins.same("keep(" + slot + ") anew", x -> {
                Due.write(x, TEXT);
                x.dyke();
                x.storm(9);
                x.storm(1);
                x.keep(other);
            }, x -> Due.is("keep(" + other + ")", x.keep(other), 2));
        }
    }

    /** What each act changes goes back to as it was kept. */
    private static void eachThingThatIsKept() {
        Due.by("keep heights, CLAY, keepers, SPADES, DAMS, what is owed, THE TIDE");
        for (int slot = 0; slot <= 1; slot++) {
            for (int kind = 0; kind <= 6; kind++) {
                int kept = slot;
                int which = kind;
                Twins.same("act " + kind + " and again(" + slot + ")", x -> {
                    begin(x);
                    x.keep(kept);
                    x.again(kept);
                }, x -> {
                    act(x, which);
                    Due.is("about(5) behind act " + which, x.about(5), 1);
                    Due.is("again(" + kept + ")", x.again(kept), 1);
                });
            }
        }
    }

    /** 1 owes 0 a load; a spade is stuck in 1, which 2 keeps; a dam is behind 1. */
    private static void begin(DykeFarms x) {
        Due.write(x, TEXT);
        x.dyke();
        x.lend(0, 1);
        x.stick(1);
        x.pull(2, 1);
        x.storm(2);
        x.stick(1);
        x.seed(9);
    }

    private static void act(DykeFarms x, int kind) {
        switch (kind) {
            case 0 -> x.storm(5);
            case 1 -> x.carry(0, 3);
            case 2 -> x.lend(2, 3);
            case 3 -> x.stick(0);
            case 4 -> x.pull(0, 1);
            case 5 -> x.dam(0);
            default -> x.dam(1);
        }
    }

    private static void noActsWhenOneGoesOn() {
        Due.by("(no ACTS when one goes on)");
        DykeFarms x = Due.dyke(TEXT);
        for (int i = 0; i < 20; i++) {
            x.storm(0);
        }
        x.keep(0);
        Due.is("about(5) behind keep(0)", x.about(5), 14);
        Due.is("again(0)", x.again(0), 20);
        Due.is("about(5) behind again(0)", x.about(5), 0);
        Due.is("undo() behind again(0)", x.undo(), -3);
        for (int i = 1; i <= 15; i++) {
            x.storm(0);
            Due.is("about(5)", x.about(5), Math.min(i, 14));
        }
        for (int left = 13; left >= 0; left--) {
            Due.is("undo()", x.undo(), left);
        }
        Due.is("about(3) when all are undone", x.about(3), 21);
        Due.is("undo() of none", x.undo(), -3);
    }

    private static void goneOnFromTwice() {
        Due.by("They are as they were kept: THE TIDE.");
        DykeFarms x = Due.dyke(TEXT);
        x.storm(1);
        x.keep(1);
        for (int i = 0; i < 3; i++) {
            x.storm(20);
            x.carry(0, 0);
            x.lend(0, 2);
            x.dam(0);
            x.pull(3, 0);
            Due.is("again(1)", x.again(1), 1);
            Due.is("about(1)", x.about(1), 2);
            Due.is("about(2)", x.about(2), 0);
            Due.is("about(3)", x.about(3), 1);
            Due.is("farm(0, 0)", x.farm(0, 0), 9);
            Due.is("farm(0, 2)", x.farm(0, 2), 9);
            Due.is("farm(0, 5)", x.farm(0, 5), 0);
            Due.is("owes(2, 0)", x.owes(2, 0), 0);
        }
    }

    private static void keptAnew() {
        Due.by("They are kept [what is kept anew takes the place of what was]");
        DykeFarms x = Due.dyke(TEXT);
        x.keep(0);
        x.storm(3);
        Due.is("keep(0) anew", x.keep(0), 1);
        x.storm(4);
        Due.is("again(0)", x.again(0), 1);
        x.storm(4);
        x.undo();
        Due.is("keep(0) behind again(0)", x.keep(0), 1);
        Due.is("again(0) anew", x.again(0), 1);
    }

    private static void slotsApart() {
        Due.by("SLOTS 0 .. 1");
        DykeFarms x = Due.dyke(TEXT);
        x.storm(3);
        x.keep(1);
        Due.is("again(0) when 1 alone is kept", x.again(0), -3);
        x.storm(20);
        x.keep(0);
        Due.is("again(1)", x.again(1), 1);
        Due.is("about(2) of 1", x.about(2), 8);
        Due.is("again(0)", x.again(0), 2);
        Due.is("about(2) of 0", x.about(2), 15);
        Due.is("again(1) behind again(0)", x.again(1), 1);
        Due.is("about(2) of 1", x.about(2), 8);
    }

    private static void goneByTheDyke() {
        Due.by("dyke: what was kept is gone");
        DykeFarms x = Due.dyke(TEXT);
        x.keep(0);
        x.keep(1);
        x.write('X');
        Due.is("dyke(), refused", x.dyke(), -3);
        Due.is("again(0) behind a refused one", x.again(0), 0);
        Due.is("again(1) behind a refused one", x.again(1), 0);
        x.wipe();
        Due.write(x, "DF00000");
        Due.is("wiped and written anew: again(0)", x.again(0), 0);
        Due.is("about(0)", x.about(0), 4);
        x.dyke();
        Due.is("again(0)", x.again(0), -3);
        Due.is("again(1)", x.again(1), -3);
        x.keep(1);
        Due.is("again(0) when 1 is kept", x.again(0), -3);
        Due.is("again(1) when it is kept", x.again(1), 0);
        Due.is("about(0)", x.about(0), 1);
    }

    private static void notKept() {
        Due.by("keep heights, CLAY, keepers, SPADES, DAMS, what is owed, THE TIDE [nothing else]");
        DykeFarms x = Due.dyke(TEXT);
        x.seed(1);
        x.keep(0);
        x.seed(2);
        x.wipe();
        x.write('D');
        Due.is("again(0)", x.again(0), 0);
        Due.is("THE SEED stays", x.seed(0), 2);
        Due.is("THE TEXT stays", x.about(6), 1);
        Due.is("fault()", x.fault(), -9);
        Due.is("about(0)", x.about(0), 4);
    }
}
