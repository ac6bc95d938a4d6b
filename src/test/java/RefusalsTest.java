/**
 * REFUSALS: each by itself, each beside one that is told ahead of it, and that what is refused changes nothing.
 * The sentence ahead of each row is the promise's own row in the document.
 */
public final class RefusalsTest {
    private static final int MIN = Integer.MIN_VALUE, MAX = Integer.MAX_VALUE;
    private static final int UNKNOWN = DykeFarms.UNKNOWN, BAD = DykeFarms.BAD;
    private static final int LATE = DykeFarms.LATE, FULL = DykeFarms.FULL;

    /** A call that is refused. */
    private interface Ask {
        long of(DykeFarms x);
    }

    private static Twins.Story story;

    public static void main(String[] args) {
        story = RefusalsTest::winter;
        theWinterIsAsTold();
        theDyke();
        acts();
        actsOfNone();
        storms();
        placing();
        told();
        owed();
        rests();
        chances();
        slots();
        story = RefusalsTest::fullText;
        writeWhenFull();
        story = RefusalsTest::faulty;
        dykeWithAFault();
        story = x -> { };
        noFarms();
        story = RefusalsTest::oneFarm;
        oneFarmHasNoNeighbour();
        Due.end();
    }

    /**
     * Four farms; 1 has no clay and its stretch is 15 high; a spade is stuck in 2 alone; 14 acts, one forgotten;
     * slot 0 is kept, slot 1 is not.
     */
    private static void winter(DykeFarms x) {
        Due.write(x, "DF93950F90041F21332F00103I1");
        x.dyke();
        for (int i = 0; i < 6; i++) {
            x.carry(0, 1);
        }
        x.keep(0);
        x.stick(2);
        x.lend(0, 3);
        x.lend(0, 3);
        x.pull(3, 2);
        x.stick(2);
        x.dam(0);
        x.storm(1);
        x.dam(2);
        x.dam(2);
        x.seed(123);
    }

    private static void fullText(DykeFarms x) {
        winter(x);
        while (x.about(6) < 48) {
            x.write('F');
        }
    }

    private static void faulty(DykeFarms x) {
        winter(x);
        x.write('X');
    }

    private static void oneFarm(DykeFarms x) {
        Due.write(x, "DF93950");
        x.dyke();
        x.carry(0, 0);
    }

    private static void refused(String call, Ask ask, long due) {
        DykeFarms x = new DykeFarms();
        story.tell(x);
        Due.is(call, ask.of(x), due);
        Twins.same(call + ", refused,", story, y -> ask.of(y));
    }

    private static void theWinterIsAsTold() {
        Due.by("[the story that refused calls come behind]");
        DykeFarms x = new DykeFarms();
        winter(x);
        int[] due = {4, 3, 4, 1, 7, 14, 27};
        for (int what = 0; what < due.length; what++) {
            Due.is("about(" + what + ")", x.about(what), due[what]);
        }
        Due.is("farm(0, 2)", x.farm(0, 2), 1);
        Due.is("farm(1, 2)", x.farm(1, 2), 0);
        Due.is("farm(1, 0)", x.farm(1, 0), 15);
        Due.is("farm(2, 5)", x.farm(2, 5), 3);
        Due.is("fault()", x.fault(), -9);
    }

    private static void theDyke() {
        Due.by("A byte (0 .. 255) comes behind THE TEXT: how long it is. BAD");
        for (int letter : new int[] {-1, 256, MIN, MAX}) {
            refused("write(" + letter + ")", x -> x.write(letter), BAD);
        }
        Due.by("about: bytes of THE TEXT (6). BAD.");
        for (int what : new int[] {-1, 7, MIN, MAX}) {
            refused("about(" + what + ")", x -> x.about(what), BAD);
        }
        Due.by("farm: UNKNOWN; BAD.");
        for (int farm : new int[] {-1, 4, 5, 6, MIN, MAX}) {
            refused("farm(" + farm + ", 0)", x -> x.farm(farm, 0), UNKNOWN);
            refused("farm(" + farm + ", 7), UNKNOWN ahead of BAD", x -> x.farm(farm, 7), UNKNOWN);
            refused("farm(" + farm + ", -1), UNKNOWN ahead of BAD", x -> x.farm(farm, -1), UNKNOWN);
        }
        for (int what : new int[] {-1, 7, MIN, MAX}) {
            refused("farm(3, " + what + ")", x -> x.farm(3, what), BAD);
        }
        Due.by("What a FARM owes another one. UNKNOWN: both.");
        for (int farm : new int[] {-1, 4, MIN, MAX}) {
            refused("owes(" + farm + ", 0)", x -> x.owes(farm, 0), UNKNOWN);
            refused("owes(0, " + farm + ")", x -> x.owes(0, farm), UNKNOWN);
            refused("owes(" + farm + ", " + farm + ")", x -> x.owes(farm, farm), UNKNOWN);
        }
    }

    private static void acts() {
        Due.by("A STORM: its LOSS. BAD: x.");
        for (int x0 : new int[] {-1, 21, MIN, MAX}) {
            refused("storm(" + x0 + ")", x -> x.storm(x0), BAD);
        }
        Due.by("CARRIED: how high the STRETCH is then. UNKNOWN: farm, stretch; LATE: the FARM has none; "
                + "FULL: it is 15 high.");
        for (int no : new int[] {-1, 4, MIN, MAX}) {
            refused("carry(" + no + ", 0)", x -> x.carry(no, 0), UNKNOWN);
            refused("carry(0, " + no + ")", x -> x.carry(0, no), UNKNOWN);
            refused("carry(1, " + no + "), UNKNOWN: stretch, ahead of LATE", x -> x.carry(1, no), UNKNOWN);
            refused("carry(" + no + ", 1), UNKNOWN: farm, ahead of FULL", x -> x.carry(no, 1), UNKNOWN);
        }
        refused("carry(1, 0)", x -> x.carry(1, 0), LATE);
        refused("carry(0, 1)", x -> x.carry(0, 1), FULL);
        refused("carry(1, 1), LATE ahead of FULL", x -> x.carry(1, 1), LATE);
        Due.by("LENT: what the other one owes it then. UNKNOWN: farm, other; BAD: both are one; "
                + "LATE: the FARM has none.");
        for (int no : new int[] {-1, 4, MIN, MAX}) {
            refused("lend(" + no + ", 0)", x -> x.lend(no, 0), UNKNOWN);
            refused("lend(0, " + no + ")", x -> x.lend(0, no), UNKNOWN);
            refused("lend(" + no + ", " + no + "), UNKNOWN ahead of BAD", x -> x.lend(no, no), UNKNOWN);
            refused("lend(1, " + no + "), UNKNOWN: other, ahead of LATE", x -> x.lend(1, no), UNKNOWN);
        }
        refused("lend(0, 0)", x -> x.lend(0, 0), BAD);
        refused("lend(1, 1), BAD ahead of LATE", x -> x.lend(1, 1), BAD);
        refused("lend(1, 0)", x -> x.lend(1, 0), LATE);
    }

    private static void actsOfNone() {
        Due.by("STUCK: who kept it. UNKNOWN; LATE: a SPADE is stuck in.");
        for (int no : new int[] {-1, 4, MIN, MAX}) {
            refused("stick(" + no + ")", x -> x.stick(no), UNKNOWN);
        }
        refused("stick(2)", x -> x.stick(2), LATE);
        Due.by("PULLED: who kept it. UNKNOWN: farm, stretch; LATE: no SPADE is stuck in.");
        for (int no : new int[] {-1, 4, MIN, MAX}) {
            refused("pull(" + no + ", 2)", x -> x.pull(no, 2), UNKNOWN);
            refused("pull(0, " + no + ")", x -> x.pull(0, no), UNKNOWN);
            refused("pull(" + no + ", 0), UNKNOWN: farm, ahead of LATE", x -> x.pull(no, 0), UNKNOWN);
        }
        for (int stretch : new int[] {0, 1, 3}) {
            refused("pull(0, " + stretch + ")", x -> x.pull(0, stretch), LATE);
        }
        Due.by("DAM: 1 if there is one then, 0. UNKNOWN: farm (the last one, too).");
        for (int no : new int[] {-1, 3, 4, MIN, MAX}) {
            refused("dam(" + no + ")", x -> x.dam(no), UNKNOWN);
        }
    }

    private static void storms() {
        for (int x0 : new int[] {-1, 21, MIN, MAX}) {
            Due.by("BREAKS, as bits. BAD: x.");
            refused("breaks(" + x0 + ")", x -> x.breaks(x0), BAD);
            Due.by("DROWNS, as bits. BAD: x.");
            refused("drowns(" + x0 + ")", x -> x.drowns(x0), BAD);
            Due.by("LOSS. BAD: x.");
            refused("loss(" + x0 + ")", x -> x.loss(x0), BAD);
            Due.by("NEEDS. BAD: x.");
            refused("needs(" + x0 + ")", x -> x.needs(x0), BAD);
        }
        Due.by("WET: BAD: lands (bits of FARMS that there are), what.");
        for (int lands : new int[] {-1, 16, 17, 32, 64, MIN, MAX}) {
            for (int what = 0; what <= 2; what++) {
                int asked = what;
                refused("wet(" + lands + ", " + what + ")", x -> x.wet(lands, asked), BAD);
            }
        }
        for (int what : new int[] {-1, 3, MIN, MAX}) {
            refused("wet(0, " + what + ")", x -> x.wet(0, what), BAD);
            refused("wet(4, " + what + ") of lands that are just wet by nothing", x -> x.wet(4, what), BAD);
        }
    }

    private static void placing() {
        Due.by("PLACING: LOSS (what = 0), STRETCHES that hold (1: bits). BAD: n, x, what.");
        for (int n : new int[] {-1, 61, MIN, MAX}) {
            refused("placing(" + n + ", 0, 0)", x -> x.placing(n, 0, 0), BAD);
        }
        for (int x0 : new int[] {-1, 21, MIN, MAX}) {
            refused("placing(0, " + x0 + ", 0)", x -> x.placing(0, x0, 0), BAD);
        }
        for (int what : new int[] {-1, 2, MIN, MAX}) {
            refused("placing(0, 0, " + what + ")", x -> x.placing(0, 0, what), BAD);
        }
        refused("placing(61, 21, 2)", x -> x.placing(61, 21, 2), BAD);
    }

    private static void told() {
        Due.by("FIRST (what = 0), GOES (1), LEFT (2); NONE. UNKNOWN: stretch; BAD: n, storms, what.");
        for (int no : new int[] {-1, 4, MIN, MAX}) {
            refused("told(" + no + ", 1, 0, 0)", x -> x.told(no, 1, 0, 0), UNKNOWN);
            refused("told(" + no + ", 0, 0, 0), UNKNOWN ahead of BAD: n", x -> x.told(no, 0, 0, 0), UNKNOWN);
            refused("told(" + no + ", 1, 21, 0), UNKNOWN ahead of BAD: storms", x -> x.told(no, 1, 21, 0), UNKNOWN);
            refused("told(" + no + ", 1, 0, 3), UNKNOWN ahead of BAD: what", x -> x.told(no, 1, 0, 3), UNKNOWN);
        }
        for (int n : new int[] {-1, 0, 6, MIN, MAX}) {
            refused("told(0, " + n + ", 0, 0)", x -> x.told(0, n, 0, 0), BAD);
        }
        for (int what : new int[] {-1, 3, MIN, MAX}) {
            refused("told(0, 1, 0, " + what + ")", x -> x.told(0, 1, 0, what), BAD);
        }
        Due.by("storms (0 or more, 2 n figures at most, each two 20 at most)");
        for (long storms : new long[] {-1, -20, 21, 99, 100, 120, 1L << 32, Long.MIN_VALUE, Long.MAX_VALUE}) {
            refused("told(0, 1, " + storms + ", 0)", x -> x.told(0, 1, storms, 0), BAD);
        }
        for (long storms : new long[] {-1, 21, 2021, 2120, 10000, 12020}) {
            refused("told(0, 2, " + storms + ", 1)", x -> x.told(0, 2, storms, 1), BAD);
        }
        for (long storms : new long[] {-1, 2120202020L, 2021202020L, 2020212020L, 2020202120L, 2020202021L,
            10000000000L, Long.MIN_VALUE, Long.MAX_VALUE}) {
            refused("told(0, 5, " + storms + ", 2)", x -> x.told(0, 5, storms, 2), BAD);
        }
    }

    private static void owed() {
        Due.by("NET, and 100. UNKNOWN.");
        for (int no : new int[] {-1, 4, MIN, MAX}) {
            refused("net(" + no + ")", x -> x.net(no), UNKNOWN);
        }
        Due.by("SHARE. UNKNOWN; BAD: x.");
        for (int no : new int[] {-1, 4, MIN, MAX}) {
            refused("share(" + no + ", 0, true)", x -> x.share(no, 0, true), UNKNOWN);
            refused("share(" + no + ", 21, false), UNKNOWN ahead of BAD", x -> x.share(no, 21, false), UNKNOWN);
        }
        for (int x0 : new int[] {-1, 21, MIN, MAX}) {
            refused("share(0, " + x0 + ", true)", x -> x.share(0, x0, true), BAD);
            refused("share(3, " + x0 + ", false)", x -> x.share(3, x0, false), BAD);
        }
    }

    private static void rests() {
        Due.by("RESTS: UNKNOWN: farm, other, stretch; BAD: both FARMS are one, x, what.");
        for (int no : new int[] {-1, 4, MIN, MAX}) {
            refused("rests(" + no + ", 1, 0, 0, 0)", x -> x.rests(no, 1, 0, 0, 0), UNKNOWN);
            refused("rests(0, " + no + ", 0, 0, 0)", x -> x.rests(0, no, 0, 0, 0), UNKNOWN);
            refused("rests(0, 1, " + no + ", 0, 0)", x -> x.rests(0, 1, no, 0, 0), UNKNOWN);
            refused("rests(" + no + ", " + no + ", 0, 0, 0), UNKNOWN ahead of BAD: both are one",
                    x -> x.rests(no, no, 0, 0, 0), UNKNOWN);
            refused("rests(1, 1, " + no + ", 0, 0), UNKNOWN: stretch, ahead of BAD: both are one",
                    x -> x.rests(1, 1, no, 0, 0), UNKNOWN);
            refused("rests(0, 1, " + no + ", 21, 0), UNKNOWN ahead of BAD: x", x -> x.rests(0, 1, no, 21, 0), UNKNOWN);
            refused("rests(0, " + no + ", 0, 0, 2), UNKNOWN ahead of BAD: what",
                    x -> x.rests(0, no, 0, 0, 2), UNKNOWN);
        }
        for (int one = 0; one < 4; one++) {
            int both = one;
            refused("rests(" + one + ", " + one + ", 0, 0, 0)", x -> x.rests(both, both, 0, 0, 0), BAD);
        }
        for (int x0 : new int[] {-1, 21, MIN, MAX}) {
            refused("rests(0, 1, 0, " + x0 + ", 0)", x -> x.rests(0, 1, 0, x0, 0), BAD);
        }
        for (int what : new int[] {-1, 2, MIN, MAX}) {
            refused("rests(0, 1, 0, 0, " + what + ")", x -> x.rests(0, 1, 0, 0, what), BAD);
        }
    }

    private static void chances() {
        Due.by("THREES. UNKNOWN; BAD: a, b, t.");
        for (int no : new int[] {-1, 4, MIN, MAX}) {
            refused("threes(" + no + ", 0, 0, 0, true)", x -> x.threes(no, 0, 0, 0, true), UNKNOWN);
            refused("threes(" + no + ", 21, 0, 0, true), UNKNOWN ahead of BAD: a",
                    x -> x.threes(no, 21, 0, 0, true), UNKNOWN);
            refused("threes(" + no + ", 0, 21, 0, true), UNKNOWN ahead of BAD: b",
                    x -> x.threes(no, 0, 21, 0, true), UNKNOWN);
            refused("threes(" + no + ", 0, 0, 11, true), UNKNOWN ahead of BAD: t",
                    x -> x.threes(no, 0, 0, 11, true), UNKNOWN);
        }
        for (int bad : new int[] {-1, 21, MIN, MAX}) {
            refused("threes(0, " + bad + ", 0, 0, true)", x -> x.threes(0, bad, 0, 0, true), BAD);
            refused("threes(0, 0, " + bad + ", 0, false)", x -> x.threes(0, 0, bad, 0, false), BAD);
        }
        for (int t : new int[] {-1, 11, MIN, MAX}) {
            refused("threes(0, 0, 0, " + t + ", true)", x -> x.threes(0, 0, 0, t, true), BAD);
        }
        Due.by("WINTERS. BAD: m.");
        for (int m : new int[] {-1, 0, 21, MIN, MAX}) {
            refused("winters(" + m + ")", x -> x.winters(m), BAD);
        }
    }

    private static void slots() {
        for (int no : new int[] {-1, 2, 3, 31, 32, 33, MIN, MAX}) {
            Due.by("They are kept: THE TIDE. UNKNOWN.");
            refused("keep(" + no + ")", x -> x.keep(no), UNKNOWN);
            Due.by("They are as they were kept: THE TIDE. UNKNOWN; LATE: none were kept.");
            refused("again(" + no + "), UNKNOWN ahead of LATE", x -> x.again(no), UNKNOWN);
        }
        refused("again(1)", x -> x.again(1), LATE);
    }

    private static void writeWhenFull() {
        Due.by("BAD; FULL: there are 48.");
        for (int letter : new int[] {0, 'D', 'F', 'I', '0', 255}) {
            refused("write(" + letter + ")", x -> x.write(letter), FULL);
        }
        for (int letter : new int[] {-1, 256, MIN, MAX}) {
            refused("write(" + letter + "), BAD ahead of FULL", x -> x.write(letter), BAD);
        }
    }

    private static void dykeWithAFault() {
        Due.by("THE TEXT is THE DYKE: how many FARMS. LATE: a FAULT.");
        refused("dyke()", x -> x.dyke(), LATE);
    }

    private static void noFarms() {
        Due.by("UNKNOWN -1 (there is no such FARM, STRETCH, SLOT)");
        refused("farm(0, 0) of none", x -> x.farm(0, 0), UNKNOWN);
        refused("owes(0, 0) of none", x -> x.owes(0, 0), UNKNOWN);
        refused("carry(0, 0) of none", x -> x.carry(0, 0), UNKNOWN);
        refused("lend(0, 0) of none", x -> x.lend(0, 0), UNKNOWN);
        refused("stick(0) of none", x -> x.stick(0), UNKNOWN);
        refused("pull(0, 0) of none", x -> x.pull(0, 0), UNKNOWN);
        refused("dam(0) of none", x -> x.dam(0), UNKNOWN);
        refused("dam(-1) of none, the last one's place", x -> x.dam(-1), UNKNOWN);
        refused("told(0, 1, 0, 0) of none", x -> x.told(0, 1, 0, 0), UNKNOWN);
        refused("net(0) of none", x -> x.net(0), UNKNOWN);
        refused("share(0, 0, true) of none", x -> x.share(0, 0, true), UNKNOWN);
        refused("rests(0, 1, 0, 0, 0) of none", x -> x.rests(0, 1, 0, 0, 0), UNKNOWN);
        refused("rests(0, 0, 0, 0, 0) of none", x -> x.rests(0, 0, 0, 0, 0), UNKNOWN);
        refused("threes(0, 0, 0, 0, true) of none", x -> x.threes(0, 0, 0, 0, true), UNKNOWN);
        refused("wet(1, 0) of none", x -> x.wet(1, 0), BAD);
        refused("again(0) of none", x -> x.again(0), LATE);
        refused("again(1) of none", x -> x.again(1), LATE);
        refused("dyke() of an empty text", x -> x.dyke(), LATE);
        Due.by("The last ACT is undone: how many are left. LATE: there is none.");
        refused("undo()", x -> x.undo(), LATE);
    }

    private static void oneFarmHasNoNeighbour() {
        Due.by("DAM: UNKNOWN: farm (the last one, too).");
        refused("dam(0) of one farm", x -> x.dam(0), UNKNOWN);
        refused("dam(-1) of one farm", x -> x.dam(-1), UNKNOWN);
        Due.by("RESTS: UNKNOWN: farm, other, stretch");
        refused("rests(0, 1, 0, 0, 0) of one farm", x -> x.rests(0, 1, 0, 0, 0), UNKNOWN);
        Due.by("lend: UNKNOWN: farm, other; BAD: both are one");
        refused("lend(0, 0) of one farm", x -> x.lend(0, 0), BAD);
        refused("lend(0, 1) of one farm", x -> x.lend(0, 1), UNKNOWN);
    }
}
