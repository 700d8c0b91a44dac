/** Boundary cases of ticks, bounds and the look ahead; promises 22 to 25. */
final class EdgesOfTicks {
    private EdgesOfTicks() {
    }

    static void run() {
        fromTick0To3000();
        aTextThatRunsDoesALine();
        boundsAreLookedAtLast();
        boundsBreak();
        theFirstBreak();
        aheadByN();
        bounds();
        ticks();
        ticksBeyond();
        ticksFull();
        broke();
        brokeBeyond();
        brokeNone();
        ahead();
        aheadBeyond();
        aheadChangesNothing();
    }

    private static void fromTick0To3000() {
        Doc.terms("A TICK goes by (TICK is 0 at first, 3000 at most), with the steps:");
        TinStation x = new TinStation();
        Due.is("at first", x.count(4), 0);
        Due.pass(x, 2999);
        Due.is("one short", x.count(4), 2999);
        Due.is("the last", x.ticks(1), 3000);
        Due.is("none goes by any more", x.ticks(1), Due.FULL);
        Due.is("at most", x.count(4), 3000);
    }

    private static void aTextThatRunsDoesALine() {
        Doc.terms("(1) THE TEXT, if it runs, does a LINE (see 3).");
        TinStation x = Due.withModules(1);
        x.machine(0, 0, 0, 9);
        x.line(3, 0, 0, 0);
        x.line(2, 0, 0, 0);
        x.ticks(1);
        Due.is("not begun: ON", x.of(0, 5), 1);
        Due.is("RAN", x.of(0, 7), 1);
        x.begin();
        Due.is("begun, no TICK yet: ON", x.of(0, 5), 1);
        x.ticks(1);
        Due.is("OFF", x.of(0, 5), 0);
        Due.is("ahead of POWER: didn't RUN", x.of(0, 7), 0);
        x.halt(1);
        x.ticks(1);
        Due.is("HALTED: off yet", x.of(0, 5), 0);
        x.halt(0);
        x.ticks(1);
        Due.is("ON", x.of(0, 5), 1);
        Due.is("RAN at once", x.of(0, 7), 1);
    }

    private static void boundsAreLookedAtLast() {
        Doc.terms("(8) BOUNDS are looked at. Then the TICK is one more.");
        TinStation x = Due.withModules(2);
        x.hatch(0, 1);
        x.person(0);
        x.gas(1, 0, 1000);
        x.bounds(250, 100000, 100000);
        x.ticks(1);
        Due.is("OXYGEN came over the HATCH ahead of it", x.broke(0), Due.NONE);
        Due.is("just as much", x.gas(0, 0, -1), 250);
        TinStation y = Due.withModules(1);
        y.person(0);
        y.gas(0, 0, 204);
        y.leak(0, 5);
        y.ticks(1);
        Due.is("what leaked is missing", y.gas(0, 0, -1), 199);
        Due.is("in the TICK that was 0", y.broke(0), 0);
        Due.is("and is 1 now", y.count(4), 1);
    }

    /** One sleeps: OXYGEN 4 less, CARBON 4 more (if there was OXYGEN), HEAT 10 more. */
    private static int brokeWith(int[] bounds, int oxygen, int carbon, int heat) {
        TinStation x = Due.withModules(2);
        x.person(1);
        if (bounds.length > 0) {
            x.bounds(bounds[0], bounds[1], bounds[2]);
        }
        x.gas(1, 0, oxygen);
        x.gas(1, 1, carbon);
        x.gas(1, 4, heat);
        x.ticks(1);
        return x.broke(1);
    }

    private static void boundsBreak() {
        Doc.terms("BOUNDS: a least OXYGEN (200 at first), a greatest CARBON (300), a greatest HEAT "
                + "(5000); they BREAK in a MODULE with PEOPLE in it if it has less, or more.");
        int[] first = {};
        Due.is("all just so", brokeWith(first, 204, 296, 4990), Due.NONE);
        Due.is("OXYGEN 199", brokeWith(first, 203, 296, 4990), 1);
        Due.is("CARBON 301", brokeWith(first, 204, 297, 4990), 1);
        Due.is("HEAT 5001", brokeWith(first, 204, 296, 4991), 1);
        int[] least = {0, 0, 0};
        Due.is("a least OXYGEN of 0 can't break, HEAT does", brokeWith(least, 0, 0, 0), 1);
        int[] cool = {0, 0, 10};
        Due.is("0 and 0 and 10", brokeWith(cool, 0, 0, 0), Due.NONE);
        Due.is("CARBON 1", brokeWith(cool, 1, 0, 0), 1);
        Due.is("HEAT 11", brokeWith(cool, 0, 0, 1), 1);
        int[] most = {100000, 100000, 100000};
        Due.is("OXYGEN 99996", brokeWith(most, 100000, 0, 0), 1);
        int[] lax = {0, 100000, 100000};
        Due.is("CARBON 100000, HEAT 100000", brokeWith(lax, 4, 99996, 99990), Due.NONE);
        Due.is("CARBON 100001", brokeWith(lax, 4, 99997, 99990), 1);
        Due.is("HEAT 100001", brokeWith(lax, 4, 99996, 99991), 1);
        nobodyThere();
    }

    private static void nobodyThere() {
        TinStation x = Due.withModules(2);
        x.hatch(0, 1);
        x.gas(0, 0, 1000);
        x.shut(0, 0);
        x.person(0);
        x.ticks(1);
        Due.is("nobody in the other one", x.broke(0), Due.NONE);
        x.shut(0, 1);
        x.go(0, 1);
        x.shut(0, 0);
        x.ticks(1);
        Due.is("somebody now", x.broke(0), 1);
        Due.is("there", x.broke(1), 1);
    }

    private static void theFirstBreak() {
        Doc.terms("THE FIRST BREAK: the TICK (that goes by) at which some BOUND first broke, and "
                + "where (the least MODULE): told once, kept.");
        TinStation x = Due.withModules(6);
        x.person(5);
        x.person(3);
        x.person(4);
        x.gas(3, 0, 208);
        x.gas(4, 0, 208);
        x.gas(5, 0, 212);
        x.ticks(2);
        Due.is("not yet", x.broke(0), Due.NONE);
        x.ticks(10);
        Due.is("the TICK", x.broke(0), 2);
        Due.is("the least MODULE of two", x.broke(1), 3);
        for (int m = 3; m < 6; m++) {
            x.gas(m, 0, 10000);
            x.gas(m, 1, 0);
        }
        x.ticks(1);
        Due.is("kept when it is well again", x.broke(0), 2);
        x.hatch(3, 0);
        x.go(1, 0);
        x.bounds(100000, 0, 0);
        x.ticks(1);
        Due.is("kept when a lesser MODULE breaks later", x.broke(1), 3);
        Due.is("the TICK, too", x.broke(0), 2);
        TinStation y = Due.withModules(1);
        Due.pass(y, 2999);
        y.person(0);
        y.ticks(1);
        Due.is("the last TICK there is", y.broke(0), 2999);
    }

    private static TinStation breathing(int oxygen) {
        TinStation x = Due.withModules(1);
        x.person(0);
        x.gas(0, 0, oxygen);
        x.bounds(200, 100000, 100000);
        return x;
    }

    private static void aheadByN() {
        Doc.terms("AHEAD by n (1 .. 200): how many TICKS from now (1: the next one) the first "
                + "would be in which a BOUND BREAKS, if all goes on so (THE TEXT and REPAIRS, "
                + "too); 0: none within n.");
        Due.is("the next one", breathing(203).ahead(1), 1);
        Due.is("not the next one", breathing(204).ahead(1), 0);
        Due.is("the one behind it", breathing(204).ahead(2), 2);
        Due.is("the 200th", breathing(999).ahead(200), 200);
        Due.is("within 199 none", breathing(999).ahead(199), 0);
        Due.is("the 201st", breathing(1000).ahead(200), 0);
        TinStation x = breathing(1000);
        x.ticks(1);
        Due.is("from now on", x.ahead(200), 200);
        TinStation broken = breathing(0);
        broken.ticks(5);
        Due.is("broken already: the next", broken.ahead(200), 1);
        broken.gas(0, 0, 211);
        Due.is("THE FIRST one is no matter", broken.ahead(200), 3);
        TinStation last = breathing(1000);
        Due.pass(last, 3000);
        last.gas(0, 0, 208);
        Due.is("from the last TICK on, too", last.ahead(200), 3);
        aheadWithText();
        aheadWithRepairs();
    }

    /** In which tick from now it really breaks. */
    private static int played(TinStation x) {
        int now = x.count(4);
        for (int t = 0; t < 200 && x.broke(0) == Due.NONE; t++) {
            x.ticks(1);
        }
        return x.broke(0) == Due.NONE ? 0 : x.broke(0) - now + 1;
    }

    private static TinStation twoRooms() {
        TinStation x = breathing(1000);
        x.module();
        x.hatch(0, 1);
        return x;
    }

    private static TinStation openedLater() {
        TinStation x = twoRooms();
        x.shut(0, 0);
        x.line(6, 100, 0, 0);
        x.line(4, 0, 0, 0);
        x.begin();
        return x;
    }

    private static void aheadWithText() {
        TinStation x = openedLater();
        int first = x.ahead(200);
        Due.is("the TEXT opens at the 101st", first > 101 ? 1 : 0, 1);
        Due.is("as it comes", first, played(openedLater()));
        x.halt(1);
        Due.is("HALTED: never", x.ahead(200), 0);
        x.halt(0);
        x.abort();
        Due.is("ended: never", x.ahead(200), 0);
        Due.is("it is as it was", x.shut(0, 0), 0);
        TinStation y = twoRooms();
        y.shut(0, 0);
        y.line(4, 0, 0, 0);
        y.line(7, 0, 1, 0);
        y.begin();
        y.gas(0, 0, 818);
        Due.is("goes where 203 are, less a breath, and 103 come", y.ahead(200) > 2 ? 1 : 0, 1);
        y.gas(0, 0, 450);
        Due.is("goes where too little is", y.ahead(200), 2);
    }

    private static void aheadWithRepairs() {
        TinStation x = breathing(206);
        x.tank(0, 1000000);
        x.machine(2, 0, Due.use(8, 0, 0), 1);
        x.spares(2, 1);
        x.ticks(1);
        Due.is("OXYGEN", x.gas(0, 0, -1), 209);
        Due.is("with the FAULT", x.ahead(200), 3);
        x.repair(0, 0, 1);
        Due.is("REPAIRED in the first: 7 more, 6 less each", x.ahead(200), 3);
        Due.is("it REPAIRS yet", x.about(0, 3), 1);
        TinStation y = breathing(206);
        y.tank(0, 1000000);
        y.machine(2, 0, Due.use(8, 0, 0), 1);
        y.spares(2, 1);
        y.ticks(1);
        y.repair(0, 0, 2);
        Due.is("REPAIRED in the second: too late", y.ahead(200), 3);
        y.gas(0, 0, 206);
        Due.is("just 200, then 201, then 195", y.ahead(200), 3);
        y.gas(0, 0, 205);
        Due.is("199 in the first", y.ahead(200), 1);
    }

    private static void bounds() {
        Doc.promise(22, "BOUNDS: a least OXYGEN, a greatest CARBON, HEAT (0 .. 100000 each): 1. "
                + "BEYOND.");
        TinStation x = new TinStation();
        Due.is("the least", x.bounds(0, 0, 0), 1);
        Due.is("the most", x.bounds(100000, 100000, 100000), 1);
        for (int w : Twins.far(-1, 100001)) {
            Twins.refused("bounds(w, 1, 1)", Stations::home, y -> y.bounds(w, 1, 1), Due.BEYOND);
            Twins.refused("bounds(1, w, 1)", Stations::home, y -> y.bounds(1, w, 1), Due.BEYOND);
            Twins.refused("bounds(1, 1, w)", Stations::home, y -> y.bounds(1, 1, w), Due.BEYOND);
        }
        TinStation z = breathing(0);
        Due.is("they aren't looked at by this", z.broke(0), Due.NONE);
    }

    private static void ticks() {
        Doc.promise(23, "n TICKS (1 .. 100) go by: the TICK then.");
        TinStation x = breathing(10000);
        Due.is("the least", x.ticks(1), 1);
        Due.is("one breath", x.gas(0, 0, -1), 9996);
        Due.is("the most", x.ticks(100), 101);
        Due.is("a hundred breaths", x.gas(0, 0, -1), 9596);
        Due.is("none broke", x.broke(0), Due.NONE);
    }

    private static void ticksBeyond() {
        Doc.promise(23, "BEYOND.");
        for (int w : Twins.far(-1, 0, 101, 3001, Integer.MAX_VALUE - 2)) {
            Twins.refused("ticks(w)", Stations::home, x -> x.ticks(w), Due.BEYOND);
        }
        Twins.refused("at the last TICK", Stations::old, x -> x.ticks(0), Due.BEYOND);
        Twins.refused("at the last TICK", Stations::old, x -> x.ticks(101), Due.BEYOND);
    }

    private static TinStation at2950() {
        TinStation x = Stations.home();
        Due.pass(x, 2950 - x.count(4));
        return x;
    }

    private static void ticksFull() {
        Doc.promise(23, "FULL: it would be above 3000.");
        Twins.refused("ticks(1)", Stations::old, x -> x.ticks(1), Due.FULL);
        Twins.refused("ticks(100)", Stations::old, x -> x.ticks(100), Due.FULL);
        Twins.refused("51 of 50", () -> at2950(), x -> x.ticks(51), Due.FULL);
        Twins.refused("100 of 50", () -> at2950(), x -> x.ticks(100), Due.FULL);
        Due.is("50 of 50", at2950().ticks(50), 3000);
        Due.is("49 of 50", at2950().ticks(49), 2999);
    }

    private static void broke() {
        Doc.promise(24, "THE FIRST BREAK: what 0 the TICK, 1 the MODULE.");
        TinStation x = breathing(0);
        x.ticks(1);
        Due.is("TICK 0", x.broke(0), 0);
        Due.is("MODULE 0", x.broke(1), 0);
        TinStation y = Due.withModules(6);
        y.ticks(7);
        y.person(5);
        y.ticks(1);
        Due.is("TICK 7", y.broke(0), 7);
        Due.is("MODULE 5", y.broke(1), 5);
    }

    private static TinStation broken() {
        TinStation x = breathing(0);
        x.ticks(1);
        return x;
    }

    private static void brokeBeyond() {
        Doc.promise(24, "BEYOND: another what.");
        for (int w : Twins.far(-1, 2)) {
            Twins.refused("broke(w), broken", () -> broken(), x -> x.broke(w), Due.BEYOND);
            Twins.refused("broke(w), not", Stations::empty, x -> x.broke(w), Due.BEYOND);
        }
    }

    private static void brokeNone() {
        Doc.promise(24, "NONE: none broke yet.");
        for (int what = 0; what < 2; what++) {
            int asked = what;
            Twins.refused("broke()", Stations::empty, x -> x.broke(asked), Due.NONE);
            Twins.refused("broke() at home", Stations::home, x -> x.broke(asked), Due.NONE);
            Twins.refused("broke() ahead of it", () -> breathing(0), x -> x.broke(asked), Due.NONE);
        }
    }

    private static void ahead() {
        Doc.promise(25, "AHEAD by n.");
        TinStation x = new TinStation();
        Due.is("of nobody, the least", x.ahead(1), 0);
        Due.is("of nobody, the most", x.ahead(200), 0);
        TinStation y = Stations.home();
        TinStation twin = Stations.home();
        int first = twin.ahead(200);
        Due.is("home breaks some day", first > 1 ? 1 : 0, 1);
        int now = y.count(4);
        y.ticks(first - 1);
        Due.is("not yet", y.broke(0), Due.NONE);
        y.ticks(1);
        Due.is("then", y.broke(0), now + first - 1);
        for (int t = 0; t < first; t++) {
            Due.is("asked in each TICK", twin.ahead(200), first - t);
            twin.ticks(1);
        }
        aheadBehindOtherPlans();
    }

    /** An earlier look, of a station that was set otherwise, leaves nothing to a later one. */
    private static void aheadBehindOtherPlans() {
        TinStation x = Due.withModules(2);
        x.person(0);
        x.machine(5, 1, Due.use(9, 0, 0), 1);
        x.machine(5, 0, Due.use(1, 50, 0), 3);
        x.sun(50, 0);
        x.bounds(0, 100000, 60);
        Due.is("cooled for three, then 10 more each", x.ahead(200), 8);
        x.bounds(0, 100000, 80);
        Due.is("a greater bound", x.ahead(200), 10);
        x.bounds(100000, 100000, 80);
        Due.is("a least OXYGEN", x.ahead(200), 1);
        x.bounds(0, 100000, 60);
        x.sun(0, 100);
        x.battery(99);
        Due.is("POWER for one", x.ahead(200), 6);
        x.battery(100);
        Due.is("POWER for two", x.ahead(200), 7);
        x.sun(0, 50);
        Due.is("STORE for one", x.ahead(200), 6);
    }

    private static void aheadBeyond() {
        Doc.promise(25, "BEYOND.");
        for (int w : Twins.far(-1, 0, 201)) {
            Twins.refused("ahead(w)", Stations::home, x -> x.ahead(w), Due.BEYOND);
        }
    }

    private static void aheadChangesNothing() {
        Doc.promise(25, "(Nothing changes.)");
        for (int n : new int[] {1, 2, 30, 100, 200}) {
            TinStation x = Stations.home();
            x.ahead(n);
            Twins.alike("behind ahead(" + n + ")", x, Stations.home());
            TinStation y = Stations.full();
            y.begin();
            TinStation twin = Stations.full();
            twin.begin();
            y.ahead(n);
            Twins.alike("behind ahead(" + n + ") of a text", y, twin);
        }
        TinStation z = Stations.home();
        int first = z.ahead(200);
        Due.is("the same again", z.ahead(200), first);
        Due.is("no finding", z.found(1) + z.found(2) + z.found(3) + z.found(4) + z.found(5), 0);
    }
}
