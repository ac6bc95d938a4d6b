import java.util.Random;

/** The edges of what is owed and of shares: promises 24 to 26, sentence by sentence. */
public final class OwedEdgesTest {
    private static final String SIX = "DF00900F00900F00900F00900F00900F00900";

    public static void main(String[] args) {
        nothingIsChanged();
        netLeastAndGreatest();
        netIsOwedLessOwes();
        payingsFewest();
        payingsOfNoNets();
        payingsOfCuts();
        shareOfOrders();
        shareAboveAndBelow();
        shareOfAllClay();
        shareOfAnyStretches();
        shareOfNothing();
        sharesComeToAllThatIsSaved();
        Due.end();
    }

    private static void lend(DykeFarms x, int farm, int other, int times) {
        for (int i = 0; i < times; i++) {
            x.lend(farm, other);
        }
    }

    private static void nothingIsChanged() {
        Due.by("In what follows nothing is changed.");
        Twins.same("what is asked of debts and shares", x -> {
            Due.write(x, "DF00910F00920F00130I1");
            x.dyke();
            lend(x, 0, 1, 3);
            x.keep(1);
            lend(x, 1, 2, 2);
            x.seed(-1);
        }, x -> {
            for (int farm = 0; farm < 3; farm++) {
                x.net(farm);
                x.payings();
                for (int storm = 0; storm <= 20; storm++) {
                    x.share(farm, storm, true);
                    x.share(farm, storm, false);
                }
            }
        });
    }

    private static void netLeastAndGreatest() {
        Due.by("NET, and 100.");
        DykeFarms x = Due.dyke(SIX);
        for (int i = 0; i < 6; i++) {
            Due.is("net(" + i + ") at first", x.net(i), 100);
        }
        for (int i = 0; i < 5; i++) {
            lend(x, i, 5, 9);
            Due.is("net(" + i + ")", x.net(i), 109);
            Due.is("net(5)", x.net(5), 91 - 9 * i);
        }
        lend(x, 5, 0, 54);
        Due.is("net(5) when it lent all", x.net(5), 109);
        Due.is("net(0) when it was lent all", x.net(0), 55);
        Due.is("net(6)", x.net(6), -1);
    }

    private static void netIsOwedLessOwes() {
        Due.by("NET of a FARM: what it is owed less what it owes");
        DykeFarms x = Due.dyke("DF00900F00900F00900");
        lend(x, 0, 1, 5);
        lend(x, 1, 0, 2);
        lend(x, 2, 0, 4);
        Due.is("net(0)", x.net(0), 100 + 5 - 2 - 4);
        Due.is("net(1)", x.net(1), 100 + 2 - 5);
        Due.is("net(2)", x.net(2), 104);
        x.undo();
        Due.is("net(2) when one is undone", x.net(2), 103);
        x.dyke();
        Due.is("net(2) when made anew", x.net(2), 100);
    }

    private static void payings(String what, int due, int... lent) {
        DykeFarms x = Due.dyke(SIX);
        for (int i = 0; i + 2 < lent.length; i += 3) {
            lend(x, lent[i], lent[i + 1], lent[i + 2]);
        }
        Due.is("payings() of " + what, x.payings(), due);
    }

    private static void payingsFewest() {
        Due.by("PAYINGS: the fewest payings by which all NETS come to nothing");
        payings("1 -1", 1, 0, 1, 1);
        payings("1 and -1 far off", 1, 0, 5, 1);
        payings("9 -9", 1, 0, 1, 9);
        payings("2 -1 -1", 2, 0, 1, 1, 0, 2, 1);
        payings("1 1 -2", 2, 0, 2, 1, 1, 2, 1);
        payings("5 -1 -1 -1 -1 -1", 5, 0, 1, 1, 0, 2, 1, 0, 3, 1, 0, 4, 1, 0, 5, 1);
        payings("-45 and five times 9", 5, 0, 5, 9, 1, 5, 9, 2, 5, 9, 3, 5, 9, 4, 5, 9);
    }

    private static void payingsOfNoNets() {
        Due.by("as many as FARMS whose NET is not nothing");
        Due.is("payings() of no farms", new DykeFarms().payings(), 0);
        Due.is("payings() of one farm", Due.dyke("DF00900").payings(), 0);
        payings("nothing lent", 0);
        payings("one lent and lent back", 0, 0, 1, 4, 1, 0, 4);
        payings("a ring of six", 0, 0, 1, 1, 1, 2, 1, 2, 3, 1, 3, 4, 1, 4, 5, 1, 5, 0, 1);
        payings("a row of six", 1, 0, 1, 1, 1, 2, 1, 2, 3, 1, 3, 4, 1, 4, 5, 1);
    }

    private static void payingsOfCuts() {
        Due.by("less the most sets into which these can be cut so that each comes to nothing by itself");
        payings("three pairs", 3, 0, 1, 1, 2, 3, 2, 4, 5, 3);
        payings("three pairs alike", 3, 0, 1, 1, 2, 3, 1, 4, 5, 1);
        payings("three pairs crossed: 2 -3 3 -2 1 -1", 3, 0, 1, 2, 2, 1, 1, 2, 3, 2, 4, 5, 1);
        payings("two threes: 2 -1 -1 and 7 -3 -4", 4, 0, 1, 1, 0, 2, 1, 3, 4, 3, 3, 5, 4);
        payings("a pair and a four: 3 -3 and 6 -1 -1 -4", 4, 0, 1, 3, 2, 3, 1, 2, 4, 1, 2, 5, 4);
        payings("a pair and a three: 3 -3 and 6 -2 -4", 3, 0, 1, 3, 2, 3, 2, 2, 4, 4);
        payings("five: 5 4 -1 -2 -6", 4, 0, 4, 5, 1, 2, 1, 1, 3, 2, 1, 4, 1);
        // 4 could go with 1 and 3 or with its like; by its like there are three sets
        payings("1 3 4 -4 -3 -1", 3, 0, 5, 1, 1, 4, 3, 2, 3, 4);
    }

    private static void share(DykeFarms x, int farm, int storm, int above, int below) {
        Due.is("share(" + farm + ", " + storm + ", true)", x.share(farm, storm, true), above);
        Due.is("share(" + farm + ", " + storm + ", false)", x.share(farm, storm, false), below);
    }

    private static void shareOfOrders() {
        Due.by("SHARE: if FARMS come one by one, in each order as likely: in the mean");
        // only stretch 0 is weak; farm 0 has five loads, the five others one each
        DykeFarms x = Due.dyke("DF00510F93102F93102F93102F93102F93102");
        shares(x, 5, 5, 6, 1, 30);
        shares(x, 9, 1, 3, 2, 15);
        shares(x, 10, 1, 6, 1, 6);
        shares(x, 11, 0, 1, 0, 1);
        shares(x, 1, 1, 6, 1, 6);
        shares(x, 2, 1, 3, 2, 15);
    }

    /** The share of farm 0, and that of each other one. */
    private static void shares(DykeFarms x, int storm, int above, int below, int othersAbove, int othersBelow) {
        share(x, 0, storm, above, below);
        for (int farm = 1; farm < 6; farm++) {
            share(x, farm, storm, othersAbove, othersBelow);
        }
    }

    private static void shareAboveAndBelow() {
        Due.by("FRACTIONS are told above (upper = true), below, in least terms.");
        share(Due.dyke("DF00990"), 0, 9, 9, 1);
        share(Due.dyke("DF00990"), 0, 10, 0, 1);
        share(Due.dyke("DF00190F90100"), 0, 2, 9, 2);
        share(Due.dyke("DF00180F90100"), 0, 2, 4, 1);
        share(Due.dyke("DF00110F90100F90100F90100F90100F90100"), 5, 6, 1, 6);
        share(Due.dyke("DF00130F90100F90100F90100F90100F90100"), 5, 6, 1, 2);
        share(Due.dyke("DF00140F90100F90100F90100F90100F90100"), 0, 6, 2, 3);
        share(Due.dyke("DF00160F90100F90100F90100F90100F90100"), 0, 6, 1, 1);
    }

    private static void shareOfAllClay() {
        Due.by("SHARE: all CLAY of those that have come may be put");
        DykeFarms x = Due.dyke("DF00190F90100I0");
        share(x, 0, 2, 9, 2);
        x.lend(1, 0);
        share(x, 0, 2, 9, 1);
        share(x, 1, 2, 0, 1);
        x.carry(0, 1);
        share(x, 0, 2, 0, 1);
        share(x, 0, 1, 9, 1);
        // 54 loads in all
        DykeFarms most = Due.dyke("DF00910F00910F00910F90900F90900F90900I0I1I2");
        for (int farm = 0; farm < 6; farm++) {
            int saved = most.share(farm, 18, true);
            int of = most.share(farm, 18, false);
            Due.is("share(" + farm + ", 18) of three that lack 18: " + saved + "/" + of, 2 * saved, of);
        }
    }

    private static void shareOfAnyStretches() {
        Due.by("SHARE: may be put on any STRETCHES (PLACING)");
        // the one has the clay, the other the land
        DykeFarms x = Due.dyke("DF90100F00090I0");
        share(x, 0, 1, 9, 1);
        share(x, 1, 1, 0, 1);
        // the first load saves 9, the second one 5
        DykeFarms y = Due.dyke("DF00190F00150I0");
        share(y, 0, 1, 7, 1);
        share(y, 1, 1, 7, 1);
        // three loads at once, or nothing
        DykeFarms z = Due.dyke("DF00210F00110");
        share(z, 0, 1, 2, 1);
        share(z, 1, 1, 0, 1);
        share(z, 0, 2, 0, 1);
        Due.by("SHARE (PLACING: 15 does not count here)");
        DykeFarms high = Due.dyke("DF90920F90900I0");
        for (int i = 0; i < 6; i++) {
            high.carry(1, 0);
        }
        // 9 and 3 loads are left, and stretch 0 is 15 high
        int[][] due = {{15, 0, 0}, {16, 1, 1}, {18, 1, 1}, {19, 2, 0}, {20, 2, 0}};
        for (int[] row : due) {
            share(high, 0, row[0], row[1], 1);
            share(high, 1, row[0], row[2], 1);
        }
    }

    private static void shareOfNothing() {
        Due.by("SHARE: by how much in the mean LOSS is less when it has come than it was");
        DykeFarms x = Due.dyke("DF00030F00960");
        share(x, 0, 20, 0, 1);
        share(x, 1, 20, 0, 1);
        share(x, 0, 0, 0, 1);
        share(x, 1, 0, 0, 1);
        share(x, 0, 4, 0, 1);
        share(x, 1, 4, 9, 1);
        share(x, 1, 5, 0, 1);
    }

    /** In each order the farms together save what all clay saves, so in the mean they do. */
    private static void sharesComeToAllThatIsSaved() {
        Due.by("SHARE: in the mean LOSS is less when it has come than it was");
        Random chance = new Random(26);
        for (int run = 0; run < 300; run++) {
            StringBuilder text = new StringBuilder("D");
            int farms = 1 + chance.nextInt(6);
            for (int i = 0; i < farms; i++) {
                text.append('F').append(chance.nextInt(10)).append(chance.nextInt(4)).append(chance.nextInt(6))
                        .append(chance.nextInt(10)).append(chance.nextInt(4));
                if (i > 0 && chance.nextBoolean()) {
                    text.append('I').append(i - 1);
                }
            }
            DykeFarms x = Due.dyke(text.toString());
            for (int storm = 0; storm <= 20; storm++) {
                long together = 0;
                for (int farm = 0; farm < farms; farm++) {
                    // six farms come in 720 orders, which each below goes into
                    together += 720L / x.share(farm, storm, false) * x.share(farm, storm, true);
                }
                int saved = x.loss(storm) - x.placing(x.about(4), storm, 0);
                Due.is("720 times all shares by " + storm + " of " + text, together, 720L * saved);
            }
        }
    }
}
