/** The edges of STORMS and of the other ACTS: promises 9 to 15, sentence by sentence. */
public final class ActsEdgesTest {
    /** Strengths, told apart by kind, height and grass, of stretches whose land is worth 1. */
    private static final String[] STRETCHES = {"DF50010", "DF53010", "DF53011", "DF53012", "DF53013", "DF00010",
        "DF03010", "DF03011", "DF00013", "DF10010", "DF93012"};
    private static final int[] STRENGTHS = {5, 8, 5, 11, 10, 0, 3, 0, 2, 1, 15};

    public static void main(String[] args) {
        leastAndGreatestStorm();
        breaksIfMore();
        tideIsOneMore();
        drownsAsFarAsThereIsNoDam();
        spadesByStorms();
        carriedTo15();
        carriedLastLoad();
        carriedByEachToEach();
        lentLastLoad();
        lentOneMore();
        lentByEachToEach();
        stuckKeepsIt();
        pulledKeepsItFromThenOn();
        pulledByEachFromEach();
        damOfEachFarm();
        eachIsAnAct();
        notAnAct();
        fourteenActs();
        actsBehindUndone();
        undoneOfEachKind();
        Due.end();
    }

    private static void leastAndGreatestStorm() {
        Due.by("A STORM of x (0 .. 20)");
        DykeFarms x = Due.dyke("DF93110F00020F00040I0I1");
        Due.is("storm(0)", x.storm(0), 0);
        Due.is("storm(1)", x.storm(1), 6);
        Due.is("storm(20)", x.storm(20), 7);
        Due.is("storm(21)", x.storm(21), -2);
        Due.is("storm(-1)", x.storm(-1), -2);
    }

    private static void breaksIfMore() {
        for (int i = 0; i < STRETCHES.length; i++) {
            for (int off = -1; off <= 1; off++) {
                breaksIfMore(STRETCHES[i], STRENGTHS[i], STRENGTHS[i] + off);
            }
        }
    }

    private static void breaksIfMore(String text, int strength, int storm) {
        if (storm < 0) {
            return;
        }
        DykeFarms x = Due.dyke(text);
        int high = x.farm(0, 0);
        int due = storm < strength ? high : storm == strength && high > 0 ? high - 1 : 0;
        String call = text + " behind storm(" + storm + "): ";
        Due.by("a STRETCH BREAKS, if x is more than its STRENGTH");
        Due.is(call + "its loss", x.storm(storm), storm > strength ? 1 : 0);
        Due.by("whose STRENGTH was x just is 1 lower (0 at least); one that did is 0 high");
        Due.is(call + "farm(0, 0)", x.farm(0, 0), due);
        Due.by("one that did is 0 high, a SPADE is stuck in it");
        Due.is(call + "about(2)", x.about(2), storm > strength ? 1 : 0);
    }

    private static void tideIsOneMore() {
        Due.by("THE TIDE is one more.");
        DykeFarms x = Due.dyke("DF00000");
        for (int i = 1; i <= 200; i++) {
            x.storm(i % 21);
            Due.is("about(3)", x.about(3), i);
        }
        DykeFarms none = new DykeFarms();
        Due.is("storm(20) of no farms", none.storm(20), 0);
        Due.is("about(3) of no farms", none.about(3), 1);
    }

    /** Lands that drown when a stretch breaks, by going along the sea land by land. */
    private static int drowned(int stretch, int dams) {
        int lands = 1 << stretch;
        for (int i = stretch; i < 5 && (dams >> i & 1) == 0; i++) {
            lands |= 1 << i + 1;
        }
        for (int i = stretch; i > 0 && (dams >> i - 1 & 1) == 0; i--) {
            lands |= 1 << i - 1;
        }
        return lands;
    }

    private static void drownsAsFarAsThereIsNoDam() {
        Due.by("its LAND drowns, and each next LAND as far as there is no DAM, on both sides");
        int[] worths = {1, 2, 4, 8, 9, 7};
        for (int dams = 0; dams < 32; dams++) {
            for (int stretch = 0; stretch < 6; stretch++) {
                StringBuilder text = new StringBuilder("D");
                for (int i = 0; i < 6; i++) {
                    text.append(i == stretch ? "F000" : "F100").append(worths[i]).append('0');
                }
                for (int i = 0; i < 5; i++) {
                    text.append((dams >> i & 1) == 1 ? "I" + i : "");
                }
                DykeFarms x = Due.dyke(text.toString());
                int lands = drowned(stretch, dams);
                int worth = 0;
                for (int i = 0; i < 6; i++) {
                    worth += (lands >> i & 1) * worths[i];
                }
                Due.is("breaks(1) of " + text, x.breaks(1), 1 << stretch);
                Due.is("drowns(1) of " + text, x.drowns(1), lands);
                Due.is("loss(1) of " + text, x.loss(1), worth);
                Due.is("storm(1) of " + text, x.storm(1), worth);
            }
        }
    }

    private static void spadesByStorms() {
        Due.by("one that did is 0 high, a SPADE is stuck in it");
        DykeFarms x = Due.dyke("DF00000F50000F90000");
        x.stick(0);
        x.stick(2);
        x.storm(6);
        Due.is("spades stuck in before stay", x.about(2), 7);
        x.pull(1, 1);
        x.storm(0);
        Due.is("a stretch 0 high that held has none", x.about(2), 5);
        x.storm(1);
        Due.is("it has one when it breaks again", x.about(2), 7);
        Due.is("its keeper stays", x.farm(1, 5), 1);
        Due.is("pull(2, 1) of it", x.pull(2, 1), 1);
    }

    private static void carriedTo15() {
        Due.by("CARRIED: it is one higher (15 at most); FULL: it is 15 high");
        DykeFarms x = Due.dyke("DF90900F93902");
        for (int high = 10; high <= 15; high++) {
            Due.is("carry(0, 0)", x.carry(0, 0), high);
        }
        Due.is("carry(0, 0) of 15", x.carry(0, 0), -4);
        Due.is("carry(1, 0) of 15", x.carry(1, 0), -4);
        Due.is("farm(0, 2)", x.farm(0, 2), 3);
        Due.is("farm(1, 2)", x.farm(1, 2), 9);
        for (int high = 10; high <= 15; high++) {
            Due.is("carry(1, 1), height and not strength", x.carry(1, 1), high);
        }
        Due.is("carry(1, 1) of 15", x.carry(1, 1), -4);
        x.storm(15);
        Due.is("farm(0, 0) behind storm(15)", x.farm(0, 0), 14);
        Due.is("carry(0, 0) of 14", x.carry(0, 0), 15);
        Due.is("carry(0, 0) of 15 anew", x.carry(0, 0), -4);
    }

    private static void carriedLastLoad() {
        Due.by("CARRIED: a load of CLAY of a FARM is put on a STRETCH; LATE: the FARM has none");
        DykeFarms x = Due.dyke("DF00100F00000F00100");
        Due.is("carry(1, 0) of none at first", x.carry(1, 0), -3);
        Due.is("carry(0, 1) of the last load", x.carry(0, 1), 1);
        Due.is("farm(0, 2)", x.farm(0, 2), 0);
        Due.is("carry(0, 1) of none", x.carry(0, 1), -3);
        Due.is("carry(2, 2), its own", x.carry(2, 2), 1);
        Due.is("carry(2, 2) of none", x.carry(2, 2), -3);
        Due.is("about(4)", x.about(4), 0);
        Due.is("nobody owes for it", x.owes(1, 0), 0);
    }

    /** Heights, clay and keepers of all farms, then what each owes each. */
    private static int[] everything(DykeFarms x) {
        int[] row = new int[6 * 9];
        for (int i = 0; i < 6; i++) {
            row[9 * i] = x.farm(i, 0);
            row[9 * i + 1] = x.farm(i, 2);
            row[9 * i + 2] = x.farm(i, 5);
            for (int other = 0; other < 6; other++) {
                row[9 * i + 3 + other] = x.owes(i, other);
            }
        }
        return row;
    }

    private static void same(String call, DykeFarms x, int[] due) {
        int[] got = everything(x);
        for (int i = 0; i < due.length; i++) {
            String[] what = {"height", "clay", "keeper", "debt to 0", "debt to 1", "debt to 2", "debt to 3", "debt to 4",
                "debt to 5"};
            Due.is(what[i % 9] + " of " + i / 9 + " behind " + call, got[i], due[i]);
        }
    }

    private static void carriedByEachToEach() {
        for (int farm = 0; farm < 6; farm++) {
            for (int stretch = 0; stretch < 6; stretch++) {
                DykeFarms x = Due.dyke("DF10300F20400F30500F40600F50700F60800");
                Due.by("CARRIED: a load of CLAY of a FARM is put on a STRETCH [and nothing else is changed]");
                int[] due = everything(x);
                due[9 * farm + 1]--;
                due[9 * stretch]++;
                String call = "carry(" + farm + ", " + stretch + ")";
                Due.is(call, x.carry(farm, stretch), stretch + 2);
                same(call, x, due);
                Due.is("about(4) behind " + call, x.about(4), 32);
                Due.is("about(1) behind " + call, x.about(1), 0);
                Due.is("about(2) behind " + call, x.about(2), 0);
                Due.is("about(3) behind " + call, x.about(3), 0);
            }
        }
    }

    private static void lentByEachToEach() {
        for (int farm = 0; farm < 6; farm++) {
            for (int other = 0; other < 6; other++) {
                DykeFarms x = Due.dyke("DF10300F20400F30500F40600F50700F60800");
                Due.by("LENT: a load of a FARM is another one's, which owes it one more [and nothing else is changed]");
                int[] due = everything(x);
                String call = "lend(" + farm + ", " + other + ")";
                if (farm != other) {
                    due[9 * farm + 1] -= 2;
                    due[9 * other + 1] += 2;
                    due[9 * other + 3 + farm] += 2;
                }
                Due.is(call, x.lend(farm, other), farm == other ? -2 : 1);
                Due.is(call + " anew", x.lend(farm, other), farm == other ? -2 : 2);
                same(call + ", twice,", x, due);
                Due.is("about(4) behind " + call, x.about(4), 33);
                Due.is("about(3) behind " + call, x.about(3), 0);
            }
        }
    }

    private static void pulledByEachFromEach() {
        for (int farm = 0; farm < 6; farm++) {
            for (int stretch = 0; stretch < 6; stretch++) {
                DykeFarms x = Due.dyke("DF10300F20400F30500F40600F50700F60800");
                Due.by("STUCK: the keeper of a STRETCH sticks its SPADE in [and nothing else is changed]");
                int[] due = everything(x);
                Due.is("stick(" + stretch + ")", x.stick(stretch), stretch);
                same("stick(" + stretch + ")", x, due);
                Due.is("about(2) behind it", x.about(2), 1 << stretch);
                Due.by("PULLED: a FARM pulls the SPADE out of a STRETCH and keeps it [and nothing else is changed]");
                due[9 * stretch + 2] = farm;
                String call = "pull(" + farm + ", " + stretch + ")";
                Due.is(call, x.pull(farm, stretch), stretch);
                same(call, x, due);
                Due.is("about(2) behind " + call, x.about(2), 0);
                Due.is("about(1) behind " + call, x.about(1), 0);
                Due.is("about(3) behind " + call, x.about(3), 0);
            }
        }
    }

    private static void lentLastLoad() {
        Due.by("LENT: a load of a FARM is another one's; LATE: the FARM has none");
        DykeFarms x = Due.dyke("DF00100F00000F00000F00000F00000F00000");
        Due.is("lend(5, 0) of none at first", x.lend(5, 0), -3);
        for (int i = 0; i < 5; i++) {
            Due.is("lend to " + (i + 1), x.lend(i, i + 1), 1);
            Due.is("lend to " + (i + 1) + " of none", x.lend(i, i + 1), -3);
        }
        Due.is("farm(5, 2)", x.farm(5, 2), 1);
        Due.is("carry(5, 0) of what was lent", x.carry(5, 0), 1);
        Due.is("lend(5, 0) of none", x.lend(5, 0), -3);
        Due.is("what is owed stays", x.owes(5, 4), 1);
    }

    private static void lentOneMore() {
        Due.by("LENT: which owes it one more");
        DykeFarms x = Due.dyke("DF00900F00900");
        for (int i = 1; i <= 9; i++) {
            Due.is("lend(0, 1)", x.lend(0, 1), i);
        }
        Due.is("farm(1, 2), more than 9", x.farm(1, 2), 18);
        for (int i = 1; i <= 18; i++) {
            Due.is("lend(1, 0)", x.lend(1, 0), i);
        }
        Due.is("owes(1, 0)", x.owes(1, 0), 9);
        Due.is("owes(0, 1)", x.owes(0, 1), 18);
        Due.is("net(0)", x.net(0), 91);
        Due.is("net(1)", x.net(1), 109);
    }

    private static void stuckKeepsIt() {
        Due.by("STUCK: the keeper of a STRETCH sticks its SPADE in, and keeps it till the SPADE is pulled out");
        DykeFarms x = Due.dyke("DF00000F00000F00000F00000F00000F00000");
        for (int i = 0; i < 6; i++) {
            Due.is("stick(" + i + ")", x.stick(i), i);
            Due.is("stick(" + i + ") anew", x.stick(i), -3);
            Due.is("farm(" + i + ", 5)", x.farm(i, 5), i);
        }
        Due.is("about(2)", x.about(2), 63);
        x.storm(20);
        Due.is("farm(5, 5) behind a storm", x.farm(5, 5), 5);
        Due.is("pull(0, 5)", x.pull(0, 5), 5);
        Due.is("farm(5, 5) behind it", x.farm(5, 5), 0);
    }

    private static void pulledKeepsItFromThenOn() {
        Due.by("PULLED: a FARM pulls the SPADE out of a STRETCH and keeps it from then on");
        DykeFarms x = Due.dyke("DF00000F00000F00000F00000F00000F00000");
        int keeper = 5;
        for (int farm = 0; farm < 6; farm++) {
            Due.is("stick(5)", x.stick(5), keeper);
            Due.is("pull(" + farm + ", 5)", x.pull(farm, 5), keeper);
            Due.is("pull(" + farm + ", 5) anew", x.pull(farm, 5), -3);
            keeper = farm;
            Due.is("farm(5, 5)", x.farm(5, 5), keeper);
        }
        x.stick(0);
        Due.is("pull(0, 0) by its keeper", x.pull(0, 0), 0);
        Due.is("farm(0, 5)", x.farm(0, 5), 0);
        Due.is("about(2)", x.about(2), 0);
        x.storm(1);
        Due.is("farm(0, 5) behind a storm", x.farm(0, 5), 0);
        Due.is("pull(4, 0) where it broke", x.pull(4, 0), 0);
        Due.is("about(2) then", x.about(2), 62);
    }

    private static void damOfEachFarm() {
        Due.by("DAM: it is built behind a FARM (towards the next one), or torn down; "
                + "UNKNOWN: farm (the last one, too)");
        StringBuilder text = new StringBuilder("D");
        for (int farms = 1; farms <= 6; farms++) {
            text.append("F00000");
            DykeFarms x = Due.dyke(text.toString());
            for (int i = 0; i < farms - 1; i++) {
                Due.is("dam(" + i + ") of " + farms + " is built", x.dam(i), 1);
                Due.is("about(1)", x.about(1), 1 << i);
                Due.is("dam(" + i + ") of " + farms + " is torn down", x.dam(i), 0);
                Due.is("about(1)", x.about(1), 0);
            }
            Due.is("dam of the last of " + farms, x.dam(farms - 1), -1);
            Due.is("dam behind the last of " + farms, x.dam(farms), -1);
        }
        DykeFarms told = Due.dyke(text + "I0I4");
        Due.is("dam(4) told by the text", told.dam(4), 0);
        Due.is("dam(0) told by the text", told.dam(0), 0);
        Due.is("about(1)", told.about(1), 0);
    }

    private static void eachIsAnAct() {
        Due.by("ACTS (STORMS, CARRIED, LENT, STUCK, PULLED, DAM) are a row");
        DykeFarms x = Due.dyke("DF00900F00900");
        x.storm(0);
        Due.is("about(5) behind a storm", x.about(5), 1);
        x.carry(0, 0);
        Due.is("about(5) behind clay carried", x.about(5), 2);
        x.lend(0, 1);
        Due.is("about(5) behind clay lent", x.about(5), 3);
        x.stick(0);
        Due.is("about(5) behind a spade stuck in", x.about(5), 4);
        x.pull(1, 0);
        Due.is("about(5) behind a spade pulled out", x.about(5), 5);
        x.dam(0);
        Due.is("about(5) behind a dam", x.about(5), 6);
        x.dam(0);
        Due.is("about(5) behind a dam torn down", x.about(5), 7);
    }

    private static void notAnAct() {
        Due.by("ACTS (STORMS, CARRIED, LENT, STUCK, PULLED, DAM) are a row [nothing else is one]");
        DykeFarms x = Due.dyke("DF00900F00900");
        x.wipe();
        x.write('D');
        x.fault();
        x.seed(5);
        x.winters(20);
        x.keep(0);
        x.keep(1);
        Due.is("about(5)", x.about(5), 0);
        Due.is("undo()", x.undo(), -3);
        x.storm(0);
        x.keep(0);
        Due.is("about(5) behind keep(0)", x.about(5), 1);
        Due.is("undo() of the storm", x.undo(), 0);
        Due.is("undo() is none itself", x.undo(), -3);
    }

    private static void fourteenActs() {
        Due.by("(14 at most; when it is full, the first one is forgotten); the last one can be undone");
        for (int acts : new int[] {0, 1, 13, 14, 15, 16, 27, 28, 29, 43, 100}) {
            DykeFarms x = Due.dyke("DF00000");
            for (int i = 1; i <= acts; i++) {
                x.storm(0);
                Due.is("about(5) behind " + i, x.about(5), Math.min(i, 14));
            }
            int left = Math.min(acts, 14);
            while (left > 0) {
                left--;
                Due.is("undo() to " + left + " of " + acts, x.undo(), left);
                Due.is("about(3) then", x.about(3), Math.max(acts - 14, 0) + left);
            }
            Due.by("The last ACT is undone: how many are left. LATE: there is none.");
            Due.is("undo() of none of " + acts, x.undo(), -3);
            Due.is("about(3) then", x.about(3), Math.max(acts - 14, 0));
            Due.is("about(5) then", x.about(5), 0);
        }
    }

    private static void actsBehindUndone() {
        Due.by("(14 at most; when it is full, the first one is forgotten); the last one can be undone");
        DykeFarms x = Due.dyke("DF00000");
        for (int i = 0; i < 20; i++) {
            x.storm(0);
        }
        for (int left = 13; left >= 9; left--) {
            Due.is("undo()", x.undo(), left);
        }
        Due.is("about(3)", x.about(3), 15);
        for (int i = 10; i <= 16; i++) {
            x.storm(0);
            Due.is("about(5)", x.about(5), Math.min(i, 14));
        }
        Due.is("about(3) behind them", x.about(3), 22);
        for (int left = 13; left >= 0; left--) {
            Due.is("undo()", x.undo(), left);
        }
        Due.is("about(3) when all are undone", x.about(3), 8);
        Due.is("undo() of none", x.undo(), -3);
    }

    private static void act(DykeFarms x, int kind) {
        switch (kind) {
            case 0 -> x.storm(6);
            case 1 -> x.carry(0, 2);
            case 2 -> x.lend(0, 1);
            case 3 -> x.stick(2);
            case 4 -> x.pull(0, 1);
            case 5 -> x.dam(0);
            default -> x.dam(1);
        }
    }

    private static void undoneOfEachKind() {
        Due.by("ACTS: the last one can be undone");
        for (int kind = 0; kind <= 6; kind++) {
            int which = kind;
            Twins.same("act " + kind + ", undone,", ActsEdgesTest::threeActs, x -> {
                act(x, which);
                Due.is("undo() of act " + which, x.undo(), 3);
            });
            Twins.same("act " + kind + " as the fourteenth, undone,", ActsEdgesTest::thirteenActs, x -> {
                act(x, which);
                Due.is("about(5) behind act " + which, x.about(5), 14);
                Due.is("undo() of act " + which, x.undo(), 13);
            });
            fifteenth(kind);
        }
    }

    private static void fifteenth(int kind) {
        Due.by("when it is full, the first one is forgotten");
        DykeFarms x = new DykeFarms();
        threeActs(x);
        for (int i = 1; i <= 14; i++) {
            x.storm(0);
        }
        act(x, kind);
        Due.is("about(5) behind act " + kind, x.about(5), 14);
        for (int left = 13; left >= 0; left--) {
            Due.is("undo() behind act " + kind, x.undo(), left);
        }
        Due.is("about(3) when all are undone", x.about(3), 1);
        Due.is("about(2) when all are undone", x.about(2), 2);
        Due.is("undo() of what is forgotten", x.undo(), -3);
    }

    /** A spade is stuck in 1, which 2 keeps; a dam is behind 1. */
    private static void threeActs(DykeFarms x) {
        Due.write(x, "DF50910F60120F30340I1");
        x.dyke();
        x.stick(1);
        x.pull(2, 1);
        x.stick(1);
    }

    private static void thirteenActs(DykeFarms x) {
        threeActs(x);
        for (int i = 0; i < 14; i++) {
            x.storm(i % 3);
        }
        x.undo();
    }
}
