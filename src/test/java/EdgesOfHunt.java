/** Boundary cases of the leak hunt; promises 32 to 35. */
final class EdgesOfHunt {
    private EdgesOfHunt() {
    }

    static void run() {
        allWhenItBegins();
        aTest();
        bestTest();
        bestOfSeveral();
        hunt();
        test();
        testBeyond();
        testNone();
        best();
        bestBeyond();
        bestNone();
        suspects();
    }

    /** 0 - 1 - .. - n-1, each with a hatch to the next one. */
    private static TinStation chain(int n) {
        TinStation x = Due.withModules(n);
        for (int h = 0; h + 1 < n; h++) {
            x.hatch(h, h + 1);
        }
        x.hunt();
        return x;
    }

    private static TinStation ring(int n) {
        TinStation x = chain(n);
        x.hatch(n - 1, 0);
        return x;
    }

    private static void allWhenItBegins() {
        Doc.terms("A LEAK HUNT: SUSPECTS are MODULES (all when it begins).");
        for (int n = 0; n <= 6; n++) {
            TinStation x = Due.withModules(n);
            Due.is("none ahead of it", x.suspects(), 0);
            x.hunt();
            Due.is("all of " + n, x.suspects(), (1 << n) - 1);
        }
        TinStation y = Due.withModules(1);
        y.hunt();
        y.module();
        Due.is("one that comes later is none", y.suspects(), 1);
    }

    private static void aTest() {
        Doc.terms("A TEST: some HATCHES are taken as closed, all others as open: PARTS are "
                + "MODULES that hang together over open ones; it was told that the PART of a "
                + "MODULE loses air: SUSPECTS that aren't of that PART are none any more.");
        for (int m = 0; m < 6; m++) {
            Due.is("none closed: all", chain(6).test(0, m), 63);
            Due.is("all closed: one", chain(6).test(31, m), 1 << m);
            Due.is("the first closed", chain(6).test(1, m), m == 0 ? 1 : 62);
            Due.is("the last closed", chain(6).test(16, m), m == 5 ? 32 : 31);
            Due.is("one of a ring closed", ring(6).test(4, m), 63);
            Due.is("two of a ring closed", ring(6).test(4 + 32, m), m < 3 ? 7 : 56);
        }
        TinStation x = chain(3);
        x.shut(0, 0);
        x.shut(1, 0);
        Due.is("really closed: taken as open", x.test(0, 0), 7);
        Due.is("and stay closed", x.shut(0, 0) + x.shut(1, 0), 0);
        TinStation y = chain(3);
        Due.is("taken as closed", y.test(3, 1), 2);
        Due.is("and stay open", y.shut(0, 1) + y.shut(1, 1), 2);
        TinStation z = chain(4);
        Due.is("first 0, 1, 2", z.test(4, 0), 7);
        Due.is("then 1, 2 of 1, 2, 3", z.test(1, 3), 6);
        Due.is("no SUSPECT comes back", z.test(0, 0), 6);
    }

    private static void bestTest() {
        Doc.terms("BEST TEST: of all sets of HATCHES that which leaves the fewest SUSPECTS at "
                + "worst (whatever PART with a SUSPECT is told);");
        int[][] due = {{1, 0, 1}, {2, 1, 1}, {3, 3, 1}, {6, 31, 1}};
        for (int[] d : due) {
            Due.is("a chain of " + d[0], chain(d[0]).best(0), d[1]);
            Due.is("at worst", chain(d[0]).best(1), d[2]);
        }
        TinStation x = chain(5);
        x.test(8, 0);
        x.test(1, 1);
        Due.is("SUSPECTS 1, 2, 3", x.suspects(), 14);
        Due.is("only between SUSPECTS", x.best(0), 2 + 4);
        TinStation y = Due.withModules(3);
        y.hunt();
        Due.is("no HATCH: no set", y.best(0), 0);
        Due.is("each is alone", y.best(1), 1);
        TinStation z = chain(3);
        z.shut(0, 0);
        z.shut(1, 0);
        Due.is("closed ones are taken as open, too", z.best(0), 3);
    }

    private static void bestOfSeveral() {
        Doc.terms("of several the one with the fewest HATCHES, then the one that is less as bits.");
        TinStation x = Due.withModules(3);
        x.hatch(0, 1);
        x.hatch(0, 1);
        x.hatch(2, 1);
        x.hunt();
        Due.is("both between 0 and 1, and the other", x.best(0), 7);
        x.test(3, 1);
        Due.is("SUSPECTS 1, 2: only the other", x.best(0), 4);
        TinStation y = Due.withModules(3);
        y.hatch(0, 2);
        y.hatch(2, 1);
        y.hunt();
        y.test(0, 0);
        Due.is("SUSPECTS 0, 1, 2 need both", y.best(0), 3);
        TinStation z = Due.withModules(4);
        z.hatch(0, 2);
        z.hatch(2, 3);
        z.hunt();
        z.hatch(3, 1);
        z.test(5, 1);
        Due.is("one SUSPECT: none closed", z.best(0), 0);
        TinStation way = Due.withModules(2);
        way.hunt();
        way.module();
        way.hatch(2, 1);
        way.hatch(0, 2);
        Due.is("SUSPECTS 0, 1 with 2 between: less as bits", way.best(0), 1);
        TinStation round = Due.withModules(2);
        round.hunt();
        round.module();
        round.module();
        round.hatch(0, 2);
        round.hatch(3, 0);
        round.hatch(2, 1);
        round.hatch(1, 3);
        Due.is("two ways, each of two", round.best(0), 1 + 2);
        Due.is("at worst", round.best(1), 1);
    }

    private static void hunt() {
        Doc.promise(32, "SUSPECTS are all MODULES again: how many.");
        Due.is("none", new TinStation().hunt(), 0);
        Due.is("the most", Due.withModules(6).hunt(), 6);
        TinStation x = chain(6);
        x.test(31, 5);
        Due.is("one is left", x.suspects(), 32);
        Due.is("all again", x.hunt(), 6);
        Due.is("as bits", x.suspects(), 63);
        TinStation y = Due.withModules(2);
        y.hunt();
        y.module();
        Due.is("the later one, too", y.hunt(), 3);
        Due.is("as bits", y.suspects(), 7);
    }

    private static void test() {
        Doc.promise(33, "A TEST: HATCHES of a set (bits) closed, the PART of a MODULE loses air: "
                + "SUSPECTS then, as bits.");
        TinStation x = Due.withModules(6);
        for (int h = 0; h < 8; h++) {
            x.hatch(h % 6, (h + 1) % 6);
        }
        x.hunt();
        Due.is("the empty set", x.test(0, 0), 63);
        Due.is("all but the last, from 2 to 1", x.test(127, 2), 6);
        x.hunt();
        Due.is("the greatest set", x.test(255, 0), 1);
        Due.is("told again", x.suspects(), 1);
        TinStation one = Due.withModules(1);
        one.hunt();
        Due.is("without HATCHES", one.test(0, 0), 1);
    }

    private static void testBeyond() {
        Doc.promise(33, "BEYOND: there is no such MODULE, or a bit of no HATCH.");
        for (int w : Twins.far(-1, 3)) {
            Twins.refused("test(0, w)", Stations::home, x -> x.test(0, w), Due.BEYOND);
            Twins.refused("test(7, w)", Stations::home, x -> x.test(7, w), Due.BEYOND);
        }
        for (int w : Twins.far(-1, -8, 8, 9, 15, 256)) {
            Twins.refused("test(w, 1)", Stations::home, x -> x.test(w, 1), Due.BEYOND);
        }
        for (int w : Twins.far(-1, 256, 511)) {
            Twins.refused("the ninth bit", Stations::full, x -> x.test(w, 0), Due.BEYOND);
        }
        Twins.refused("no HATCHES", () -> Due.withModules(1), x -> x.test(1, 0), Due.BEYOND);
        Twins.refused("no MODULES", Stations::empty, x -> x.test(0, 0), Due.BEYOND);
        Due.is("each of 3 is one", Stations.home().test(7, 1), 2);
        Due.is("each of 8 is one", Stations.full().test(255, 0), 1);
    }

    private static void testNone() {
        Doc.promise(33, "NONE: no SUSPECT would be left (nothing changes).");
        Twins.refused("0 is none at home", Stations::home, x -> x.test(7, 0), Due.NONE);
        Twins.refused("ahead of a hunt", () -> Due.withModules(6), x -> x.test(0, 0), Due.NONE);
        TinStation x = Stations.home();
        Due.is("one is left", x.test(7, 2), 4);
        Due.is("none would be", x.test(7, 1), Due.NONE);
        Due.is("nothing changed", x.suspects(), 4);
        Due.is("the one again", x.test(7, 2), 4);
    }

    private static void best() {
        Doc.promise(34, "BEST TEST: what 0 as bits, 1 how many SUSPECTS it leaves at worst.");
        TinStation x = Stations.full();
        Due.is("as bits", x.best(0), 255);
        Due.is("at worst", x.best(1), 1);
        Due.is("SUSPECTS stay", x.suspects(), 63);
        TinStation y = Due.withModules(1);
        y.hunt();
        Due.is("the only one", y.best(0), 0);
        Due.is("it is left", y.best(1), 1);
    }

    private static void bestBeyond() {
        Doc.promise(34, "BEYOND: another what.");
        for (int w : Twins.far(-1, 2)) {
            Twins.refused("best(w)", Stations::home, x -> x.best(w), Due.BEYOND);
            Twins.refused("best(w), no SUSPECTS", Stations::empty, x -> x.best(w), Due.BEYOND);
        }
    }

    private static void bestNone() {
        Doc.promise(34, "NONE: there are no SUSPECTS.");
        for (int what = 0; what < 2; what++) {
            int asked = what;
            Twins.refused("a new one", Stations::empty, x -> x.best(asked), Due.NONE);
            Twins.refused("no hunt", () -> Due.withModules(6), x -> x.best(asked), Due.NONE);
        }
        TinStation x = new TinStation();
        x.hunt();
        Due.is("a hunt without MODULES", x.best(0), Due.NONE);
    }

    private static void suspects() {
        Doc.promise(35, "SUSPECTS as bits.");
        TinStation x = new TinStation();
        Due.is("none", x.suspects(), 0);
        Due.is("the most", Stations.full().suspects(), 63);
        Due.is("1 and 2", Stations.home().suspects(), 6);
        Due.is("no finding", x.found(2), 0);
    }
}
