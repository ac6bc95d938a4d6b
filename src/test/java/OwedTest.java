/** Promises 24 to 26. */
public final class OwedTest {
    public static void main(String[] args) {
        net();
        payings();
        share();
        shareOfWhatWasLent();
        Due.end();
    }

    private static void lend(DykeFarms x, int farm, int other, int times) {
        for (int i = 0; i < times; i++) {
            Due.is("lend(" + farm + ", " + other + ")", x.lend(farm, other), i + 1);
        }
    }

    private static void net() {
        DykeFarms x = Due.dyke("DF00900F00000F00000");
        Due.is("net(0) at first", x.net(0), 100);
        lend(x, 0, 1, 5);
        lend(x, 1, 2, 2);
        lend(x, 2, 0, 1);
        Due.is("net(0)", x.net(0), 104);
        Due.is("net(1)", x.net(1), 97);
        Due.is("net(2)", x.net(2), 99);
        x.carry(0, 0);
        Due.is("carrying is no lending", x.net(0), 104);
        Due.is("net(3)", x.net(3), -1);
        Due.is("net(-1)", x.net(-1), -1);
    }

    private static void payings() {
        DykeFarms x = Due.dyke("DF00900F00900F00900F00900F00900F00900");
        Due.is("payings() of nothing", x.payings(), 0);
        lend(x, 0, 1, 3);
        Due.is("of two", x.payings(), 1);
        lend(x, 1, 2, 3);
        Due.is("what goes through one is one", x.payings(), 1);
        lend(x, 2, 0, 3);
        Due.is("a ring is nothing", x.payings(), 0);
        DykeFarms y = Due.dyke("DF00900F00900F00900F00900F00900F00900");
        lend(y, 0, 1, 2);
        lend(y, 2, 3, 3);
        lend(y, 4, 5, 4);
        Due.is("three pairs", y.payings(), 3);
        lend(y, 0, 3, 1);
        Due.is("3 -2 3 -4 4 -4: 4 and 3, 3, -2, -4", y.payings(), 4);
        lend(y, 4, 1, 1);
        Due.is("3 -3 3 -4 5 -4", y.payings(), 4);
        lend(y, 2, 5, 1);
        Due.is("3 -3 4 -4 5 -5", y.payings(), 3);
        DykeFarms z = Due.dyke("DF00900F00900F00900F00900F00900F00900");
        lend(z, 0, 1, 1);
        lend(z, 0, 2, 2);
        lend(z, 0, 3, 4);
        Due.is("one to three", z.payings(), 3);
        lend(z, 4, 5, 6);
        Due.is("7 -1 -2 -4 6 -6", z.payings(), 4);
    }

    private static void share(DykeFarms x, int farm, int storm, int above, int below) {
        Due.is("share(" + farm + ", " + storm + ", true)", x.share(farm, storm, true), above);
        Due.is("share(" + farm + ", " + storm + ", false)", x.share(farm, storm, false), below);
    }

    private static void share() {
        // each lacks 1 at a storm of 1: 0 alone saves 3, 1 alone 5, both 5
        DykeFarms x = Due.dyke("DF00130F00220I0");
        share(x, 0, 1, 3, 2);
        share(x, 1, 1, 7, 2);
        share(x, 0, 0, 0, 1);
        // at a storm of 2 each lacks 2: 1 alone saves 3, both 3
        share(x, 0, 2, 0, 1);
        share(x, 1, 2, 3, 1);
        share(x, 0, 20, 0, 1);
        // three farms of a load each: one load saves 4, two 6, three 7
        DykeFarms y = Due.dyke("DF00140F00120F00110I0I1");
        share(y, 0, 1, 7, 3);
        share(y, 2, 1, 7, 3);
        // one farm alone
        share(Due.dyke("DF00990"), 0, 9, 9, 1);
        share(Due.dyke("DF00890"), 0, 9, 0, 1);
        Due.is("share(1, 0, true)", Due.dyke("DF00990").share(1, 0, true), -1);
        Due.is("share(-1, 0, true)", x.share(-1, 0, true), -1);
        Due.is("share(0, 21, true)", x.share(0, 21, true), -2);
        Due.is("share(0, -1, false)", x.share(0, -1, false), -2);
        Due.is("share(2, 21, true): UNKNOWN ahead of BAD", x.share(2, 21, true), -1);
    }

    private static void shareOfWhatWasLent() {
        DykeFarms x = Due.dyke("DF00130F00120I0");
        share(x, 0, 1, 5, 2);
        x.lend(0, 1);
        share(x, 0, 1, 0, 1);
        share(x, 1, 1, 5, 1);
        Due.is("nothing changes", x.about(5), 1);
    }
}
