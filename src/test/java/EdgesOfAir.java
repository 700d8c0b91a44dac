/** Boundary cases of findings, modules, hatches, tanks and space; promises 1 to 8. */
final class EdgesOfAir {
    private EdgesOfAir() {
    }

    static void run() {
        findingsByNumber();
        theOrderOfFindings();
        aFindingChangesNothing();
        quotientsAreCut();
        atMostSixModules();
        gasesAtFirst();
        leakFrom0To50();
        atMostEightHatches();
        tanksByNumber();
        whatWentToSpace();
        leaksAreCut();
        hatchesAreCut();
        aNewObject();
        module();
        hatch();
        hatchThatIsNone();
        hatchFull();
        shut();
        gas();
        gasIsntFromAnywhere();
        leak();
        tank();
        grams();
    }

    private static void findingsByNumber() {
        Doc.terms("FINDINGS are answers below -1000000000: LOW is -1000000000; LOW - 1 BEYOND, "
                + "LOW - 2 NONE, LOW - 3 STATE, LOW - 4 FULL, LOW - 5 KIND.");
        TinStation x = Stations.full();
        Due.is("BEYOND", x.leak(6, 0), -1000000001);
        Due.is("NONE", x.broke(0), -1000000002);
        Due.is("STATE", x.abort(), -1000000003);
        Due.is("FULL", x.module(), -1000000004);
        Due.is("KIND", x.as(0, 1), -1000000005);
        for (int k = 1; k <= 5; k++) {
            Due.is("found(" + k + ")", x.found(k), 1);
        }
        Due.is("LOW itself is told as a number, not answered", x.mass(1, Due.LOW), 0);
        Due.is("and is no finding", x.found(1), 1);
    }

    private static void theOrderOfFindings() {
        Doc.terms("Each act tells its findings in the order in which they are asked;");
        TinStation x = Stations.full();
        Due.is("hatch: BEYOND ahead of FULL", x.hatch(1, 1), Due.BEYOND);
        Due.is("hatch: FULL", x.hatch(0, 1), Due.FULL);
        Due.is("person: BEYOND ahead of FULL", x.person(6), Due.BEYOND);
        Due.is("person: FULL", x.person(0), Due.FULL);
        Due.is("machine: BEYOND ahead of FULL", x.machine(6, 0, 0, 1), Due.BEYOND);
        Due.is("machine: BEYOND of MODULE", x.machine(0, 6, 0, 1), Due.BEYOND);
        Due.is("machine: BEYOND of use", x.machine(0, 0, 101, 1), Due.BEYOND);
        Due.is("machine: BEYOND of life", x.machine(0, 0, 0, 0), Due.BEYOND);
        Due.is("machine: FULL", x.machine(0, 0, 0, 1), Due.FULL);
        Due.is("line: BEYOND ahead of FULL", x.line(12, 0, 0, 0), Due.BEYOND);
        Due.is("line: FULL", x.line(0, 0, 0, 0), Due.FULL);
        Due.is("read: BEYOND ahead of FULL", x.read(4, 0), Due.BEYOND);
        Due.is("read: BEYOND of value", x.read(0, 10001), Due.BEYOND);
        Due.is("read: FULL", x.read(0, 0), Due.FULL);
        Due.is("calibrate: BEYOND ahead of FULL", x.calibrate(4, 0), Due.BEYOND);
        Due.is("calibrate: BEYOND of over", x.calibrate(0, 1001), Due.BEYOND);
        Due.is("calibrate: FULL", x.calibrate(0, 0), Due.FULL);
        Due.is("as: BEYOND ahead of KIND", x.as(0, 6), Due.BEYOND);
        Due.is("as: KIND", x.as(0, 5), Due.KIND);
        Due.is("broke: BEYOND ahead of NONE", x.broke(2), Due.BEYOND);
        Due.is("broke: NONE", x.broke(1), Due.NONE);
        Due.is("halt: BEYOND ahead of STATE", x.halt(2), Due.BEYOND);
        Due.is("halt: STATE", x.halt(1), Due.STATE);
        Due.is("dock: BEYOND ahead of STATE", x.dock(10000000, 1001), Due.BEYOND);
        Due.is("dock: STATE", x.dock(10000000, 1000), Due.STATE);
        Due.is("undock: BEYOND ahead of STATE", x.undock(10000001), Due.BEYOND);
        Due.is("undock: STATE", x.undock(10000000), Due.STATE);
        x.begin();
        Due.is("line: BEYOND ahead of STATE", x.line(-1, 0, 0, 0), Due.BEYOND);
        Due.is("line: STATE ahead of FULL", x.line(0, 0, 0, 0), Due.STATE);
        theOrderForWhoRepairs();
        theOrderWithNone();
    }

    private static void theOrderForWhoRepairs() {
        TinStation x = Stations.home();
        Due.is("go: BEYOND ahead of STATE", x.go(1, 3), Due.BEYOND);
        Due.is("go: STATE", x.go(1, 0), Due.STATE);
        Due.is("doing: BEYOND ahead of STATE", x.doing(1, 3), Due.BEYOND);
        Due.is("doing: STATE", x.doing(1, 0), Due.STATE);
        Due.is("repair: BEYOND ahead of STATE", x.repair(1, 3, 61), Due.BEYOND);
        Due.is("repair: STATE ahead of NONE", x.repair(1, 3, 60), Due.STATE);
        Due.is("repair: elsewhere, STATE ahead of NONE", x.repair(0, 3, 60), Due.STATE);
        x.go(0, 1);
        Due.is("repair: BEYOND ahead of NONE", x.repair(0, 3, 0), Due.BEYOND);
        Due.is("repair: NONE", x.repair(0, 3, 60), Due.NONE);
    }

    private static void theOrderWithNone() {
        TinStation x = Due.withModules(1);
        Due.is("best: BEYOND ahead of NONE", x.best(2), Due.BEYOND);
        Due.is("best: NONE", x.best(1), Due.NONE);
        Due.is("test: BEYOND of a HATCH ahead of NONE", x.test(1, 0), Due.BEYOND);
        Due.is("test: BEYOND of a MODULE ahead of NONE", x.test(0, 1), Due.BEYOND);
        Due.is("test: NONE", x.test(0, 0), Due.NONE);
        Due.is("known: BEYOND of a SENSOR ahead of NONE", x.known(4, 0), Due.BEYOND);
        Due.is("known: BEYOND of a TICK ahead of NONE", x.known(0, 4001), Due.BEYOND);
        Due.is("known: NONE", x.known(0, 4000), Due.NONE);
        Due.pass(x, 3000);
        Due.is("ticks: BEYOND ahead of FULL", x.ticks(0), Due.BEYOND);
        Due.is("ticks: BEYOND ahead of FULL", x.ticks(101), Due.BEYOND);
        Due.is("ticks: FULL", x.ticks(1), Due.FULL);
    }

    private static void aFindingChangesNothing() {
        Doc.terms("one that answers a finding changes nothing but what found() tells.");
        Twins.refused("module()", Stations::full, TinStation::module, Due.FULL);
        Twins.refused("abort()", Stations::full, TinStation::abort, Due.STATE);
        Twins.refused("broke(0)", Stations::full, x -> x.broke(0), Due.NONE);
        Twins.refused("as(0, 1)", Stations::full, x -> x.as(0, 1), Due.KIND);
        Twins.refused("found(0)", Stations::full, x -> x.found(0), Due.BEYOND);
        for (int v : new int[] {Integer.MIN_VALUE, Integer.MAX_VALUE}) {
            Twins.refused("gas()", Stations::home, x -> x.gas(v, v, v), Due.BEYOND);
            Twins.refused("machine()", Stations::home, x -> x.machine(v, v, v, v), Due.BEYOND);
            Twins.refused("repair()", Stations::home, x -> x.repair(v, v, v), Due.BEYOND);
            Twins.refused("line()", Stations::home, x -> x.line(v, v, v, v), Due.BEYOND);
            Twins.refused("bounds()", Stations::home, x -> x.bounds(v, v, v), Due.BEYOND);
        }
    }

    private static void quotientsAreCut() {
        Doc.terms("Quotients are cut.");
        TinStation x = Due.withModules(2);
        x.hatch(0, 1);
        x.gas(0, 3, 7);
        x.ticks(1);
        Due.is("7 / 4 down to 1", x.gas(1, 3, -1), 1);
        x.gas(0, 3, 0);
        x.gas(1, 3, 7);
        x.ticks(1);
        Due.is("7 / 4 down to 1, the other way", x.gas(0, 3, -1), 1);
        x.mass(0, 4);
        x.mass(1, -7);
        Due.is("-28 / 5 up to -5", x.dock(1, 0), -5);
        x.mass(0, 4);
        x.mass(1, 7);
        Due.is("28 / 5 down to 5", x.dock(1, 0), 5);
    }

    private static void atMostSixModules() {
        Doc.terms("MODULES 0, 1, .. (at most 6) each have");
        TinStation x = new TinStation();
        for (int m = 0; m < 6; m++) {
            Due.is("not there yet", x.leak(m, 0), Due.BEYOND);
            Due.is("module()", x.module(), m);
            Due.is("there", x.leak(m, 0), 0);
        }
        Twins.refused("the seventh", () -> Due.withModules(6), TinStation::module, Due.FULL);
    }

    private static void gasesAtFirst() {
        Doc.terms("GASES in grams: 0 OXYGEN, 1 CARBON, 2 VAPOUR, 3 NITROGEN, and HEAT (all 0 at "
                + "first),");
        for (int n = 1; n <= 6; n++) {
            TinStation x = Due.withModules(n);
            for (int g = 0; g < 5; g++) {
                Due.is("gas(" + (n - 1) + ", " + g + ")", x.gas(n - 1, g, -1), 0);
            }
            Due.is("none beyond HEAT", x.gas(n - 1, 5, -1), Due.BEYOND);
        }
        TinStation y = Due.withModules(1);
        y.gas(0, 4, 100000);
        Due.is("HEAT isn't grams", y.grams(), 0);
        y.gas(0, 3, 1);
        Due.is("NITROGEN is", y.grams(), 1);
    }

    private static void leakFrom0To50() {
        Doc.terms("and a LEAK (0 .. 50; 0 at first).");
        TinStation x = Due.withModules(1);
        x.gas(0, 3, 1000);
        x.ticks(1);
        Due.is("none at first", x.gas(0, 3, -1), 1000);
        Due.is("the most", x.leak(0, 50), 0);
        x.ticks(1);
        Due.is("50 of 1000", x.gas(0, 3, -1), 950);
        Due.is("the least", x.leak(0, 0), 50);
        x.ticks(1);
        Due.is("none again", x.gas(0, 3, -1), 950);
    }

    private static void atMostEightHatches() {
        Doc.terms("HATCHES 0, 1, .. (at most 8) are between two MODULES, open (at first) or "
                + "closed.");
        TinStation x = Due.withModules(2);
        for (int h = 0; h < 8; h++) {
            Due.is("not there yet", x.shut(h, 1), Due.BEYOND);
            Due.is("hatch()", x.hatch(h % 2, 1 - h % 2), h);
            Due.is("open at first", x.shut(h, 0), 1);
            Due.is("closed then", x.shut(h, 0), 0);
        }
        Due.is("the ninth", x.hatch(0, 1), Due.FULL);
        x.gas(0, 0, 65536);
        x.ticks(1);
        Due.is("all closed", x.gas(1, 0, -1), 0);
        x.shut(7, 1);
        x.ticks(1);
        Due.is("the last is open", x.gas(1, 0, -1), 16384);
    }

    private static void tanksByNumber() {
        Doc.terms("TANKS in grams: 0 WATER, 1 WASTE, 2 BRINE, 3 COAL (carbon that was taken out).");
        TinStation x = Due.withModules(1);
        for (int t = 0; t < 4; t++) {
            x.tank(t, 1);
            Due.is("TANK " + t + " counts as grams", x.grams(), t + 1);
        }
        x.gas(0, 1, 5);
        x.machine(1, 0, Due.use(5, 0, 0), 9);
        x.ticks(1);
        Due.is("carbon that was taken out", x.tank(3, -1), 6);
    }

    private static void whatWentToSpace() {
        Doc.terms("SPACE has grams and heat that went there.");
        TinStation x = Due.withModules(1);
        Due.is("no grams at first", x.tank(4, -1), 0);
        Due.is("no heat at first", x.tank(5, -1), 0);
        x.gas(0, 0, 20);
        x.gas(0, 4, 30);
        x.leak(0, 50);
        x.machine(5, 0, Due.use(2, 0, 0), 9);
        x.ticks(1);
        Due.is("a gram that leaked", x.tank(4, -1), 1);
        Due.is("heat that was taken", x.tank(5, -1), 20);
        Due.is("each gram is somewhere", x.grams(), 20);
    }

    private static void leaksAreCut() {
        Doc.terms("(6) LEAKS: of each MODULE, of each GAS: times its LEAK, by 1000, goes to "
                + "SPACE.");
        int[][] due = {{0, 50, 0}, {19, 50, 0}, {20, 50, 1}, {39, 50, 1}, {40, 50, 2}, {999, 1, 0},
            {1000, 1, 1}, {1999, 1, 1}, {2000, 1, 2}, {100000, 50, 5000}, {100000, 1, 100},
            {99999, 49, 4899}, {100000, 0, 0}};
        for (int[] d : due) {
            for (int g = 0; g < 4; g++) {
                TinStation x = Due.withModules(6);
                x.gas(5, g, d[0]);
                x.leak(5, d[1]);
                x.ticks(1);
                Due.is(d[0] + " of GAS " + g + " at " + d[1], x.tank(4, -1), d[2]);
                Due.is("the rest stays", x.gas(5, g, -1), d[0] - d[2]);
            }
        }
        TinStation y = Due.withModules(1);
        for (int g = 0; g < 5; g++) {
            y.gas(0, g, 30);
        }
        y.leak(0, 50);
        y.ticks(1);
        Due.is("each GAS is cut by itself", y.tank(4, -1), 4);
        Due.is("HEAT stays", y.gas(0, 4, -1), 30);
    }

    private static void hatchesAreCut() {
        Doc.terms("(7) HATCHES that are open, by numbers: of each GAS, and of HEAT: a quarter of "
                + "the difference goes from the MODULE that has more to the other one.");
        int[][] due = {{0, 0, 0}, {3, 0, 0}, {4, 0, 1}, {7, 0, 1}, {8, 0, 2}, {103, 100, 0},
            {104, 100, 1}, {100000, 0, 25000}, {100000, 1, 24999}};
        for (int[] d : due) {
            for (int g = 0; g < 5; g++) {
                TinStation x = Due.withModules(2);
                x.hatch(0, 1);
                x.gas(0, g, d[0]);
                x.gas(1, g, d[1]);
                x.ticks(1);
                Due.is("left of " + d[0], x.gas(0, g, -1), d[0] - d[2]);
                Due.is("come to " + d[1], x.gas(1, g, -1), d[1] + d[2]);
                TinStation y = Due.withModules(2);
                y.hatch(0, 1);
                y.gas(0, g, d[1]);
                y.gas(1, g, d[0]);
                y.ticks(1);
                Due.is("the other way: come to " + d[1], y.gas(0, g, -1), d[1] + d[2]);
                Due.is("the other way: left of " + d[0], y.gas(1, g, -1), d[0] - d[2]);
            }
        }
        TinStation z = Due.withModules(3);
        z.hatch(1, 2);
        z.hatch(0, 1);
        z.gas(0, 0, 64);
        z.ticks(1);
        Due.is("by numbers: nothing yet in 2", z.gas(2, 0, -1), 0);
        z.ticks(1);
        Due.is("by numbers: a quarter of 16", z.gas(2, 0, -1), 4);
    }

    private static void aNewObject() {
        Doc.promise(1, "No MODULES, nothing in TANKS; TICK 0.");
        TinStation x = new TinStation();
        Due.is("count(0)", x.count(0), 0);
        Due.is("count(4)", x.count(4), 0);
        for (int t = 0; t < 6; t++) {
            Due.is("tank(" + t + ")", x.tank(t, -1), 0);
        }
        Due.is("gas(0, 0, -1)", x.gas(0, 0, -1), Due.BEYOND);
        Due.is("ticks(1) of nothing", x.ticks(1), 1);
        Due.is("ahead(200) of nothing", x.ahead(200), 0);
        Due.is("grams()", x.grams(), 0);
    }

    private static void module() {
        Doc.promise(2, "A MODULE comes: its number. FULL.");
        TinStation x = new TinStation();
        Due.is("the first", x.module(), 0);
        for (int m = 1; m < 5; m++) {
            x.module();
        }
        Due.is("the last", x.module(), 5);
        Twins.refused("one more", Stations::full, TinStation::module, Due.FULL);
        TinStation late = Due.withModules(1);
        late.ticks(9);
        Due.is("one comes later", late.module(), 1);
        Due.is("and is counted", late.count(0), 2);
    }

    private static void hatch() {
        Doc.promise(3, "A HATCH comes, open: its number.");
        TinStation x = Due.withModules(6);
        Due.is("between the first and the last", x.hatch(0, 5), 0);
        Due.is("between the last and the first, too", x.hatch(5, 0), 1);
        Due.is("open", x.shut(1, 1), 1);
        x.gas(5, 3, 16);
        x.ticks(1);
        Due.is("both let by: a quarter of 16, of 8", x.gas(0, 3, -1), 4 + 2);
    }

    private static void hatchThatIsNone() {
        Doc.promise(3, "BEYOND: there is no such MODULE, or they are one.");
        for (int w : Twins.far(-1, 3)) {
            Twins.refused("hatch(0, w)", Stations::home, x -> x.hatch(0, w), Due.BEYOND);
            Twins.refused("hatch(w, 0)", Stations::home, x -> x.hatch(w, 0), Due.BEYOND);
            Twins.refused("hatch(w, w)", Stations::home, x -> x.hatch(w, w), Due.BEYOND);
        }
        for (int m = 0; m < 3; m++) {
            int one = m;
            Twins.refused("hatch(m, m)", Stations::home, x -> x.hatch(one, one), Due.BEYOND);
        }
        Twins.refused("without MODULES", Stations::empty, x -> x.hatch(0, 1), Due.BEYOND);
    }

    private static void hatchFull() {
        Doc.promise(3, "FULL.");
        TinStation x = Due.withModules(2);
        for (int h = 0; h < 7; h++) {
            x.hatch(0, 1);
        }
        Due.is("the eighth", x.hatch(1, 0), 7);
        Twins.refused("the ninth", Stations::full, y -> y.hatch(0, 1), Due.FULL);
        Twins.refused("the ninth, of one", Stations::full, y -> y.hatch(0, 0), Due.BEYOND);
        Twins.refused("the ninth, of none", Stations::full, y -> y.hatch(0, 6), Due.BEYOND);
    }

    private static void shut() {
        Doc.promise(4, "A HATCH is open (1), or closed (0): what it was. BEYOND.");
        TinStation x = Stations.full();
        for (int h = 0; h < 8; h++) {
            Due.is("to closed", x.shut(h, 0), 1);
            Due.is("closed yet", x.shut(h, 0), 0);
            Due.is("to open", x.shut(h, 1), 0);
            Due.is("open yet", x.shut(h, 1), 1);
        }
        for (int w : Twins.far(-1, 3)) {
            Twins.refused("shut(w, 0)", Stations::home, y -> y.shut(w, 0), Due.BEYOND);
            Twins.refused("shut(w, 1)", Stations::home, y -> y.shut(w, 1), Due.BEYOND);
        }
        for (int w : Twins.far(-1, 2)) {
            Twins.refused("shut(0, w)", Stations::home, y -> y.shut(0, w), Due.BEYOND);
            Twins.refused("shut(2, w)", Stations::home, y -> y.shut(2, w), Due.BEYOND);
        }
        Twins.refused("the ninth", Stations::full, y -> y.shut(8, 0), Due.BEYOND);
        Twins.refused("without any", Stations::empty, y -> y.shut(0, 0), Due.BEYOND);
    }

    private static void gas() {
        Doc.promise(5, "GAS (4: HEAT) of a MODULE becomes v (0 .. 100000; -1: it stays): what it "
                + "was. BEYOND.");
        TinStation x = Stations.full();
        for (int m = 0; m < 6; m += 5) {
            for (int g = 0; g < 5; g++) {
                x.gas(m, g, 0);
                Due.is("the most", x.gas(m, g, 100000), 0);
                Due.is("it stays", x.gas(m, g, -1), 100000);
                Due.is("the least", x.gas(m, g, 0), 100000);
                Due.is("it stays 0", x.gas(m, g, -1), 0);
                Due.is("still 0", x.gas(m, g, 1), 0);
            }
        }
        for (int w : Twins.far(-2, 100001)) {
            Twins.refused("gas(0, 0, w)", Stations::home, y -> y.gas(0, 0, w), Due.BEYOND);
            Twins.refused("gas(2, 4, w)", Stations::home, y -> y.gas(2, 4, w), Due.BEYOND);
        }
        for (int w : Twins.far(-1, 3)) {
            Twins.refused("gas(w, 0, 1)", Stations::home, y -> y.gas(w, 0, 1), Due.BEYOND);
            Twins.refused("gas(w, 0, -1)", Stations::home, y -> y.gas(w, 0, -1), Due.BEYOND);
        }
        for (int w : Twins.far(-1, 5)) {
            Twins.refused("gas(0, w, 1)", Stations::home, y -> y.gas(0, w, 1), Due.BEYOND);
            Twins.refused("gas(2, w, -1)", Stations::home, y -> y.gas(2, w, -1), Due.BEYOND);
        }
        Twins.refused("the seventh", Stations::full, y -> y.gas(6, 0, 1), Due.BEYOND);
        moreThanMayBeSet();
    }

    private static void moreThanMayBeSet() {
        TinStation x = Due.withModules(1);
        x.machine(2, 0, Due.use(9, 0, 0), 9);
        x.tank(0, 9);
        x.gas(0, 0, 100000);
        x.ticks(1);
        Due.is("what comes by itself isn't cut", x.gas(0, 0, -1), 100008);
        Due.is("nor what stays", x.gas(0, 0, -1), 100008);
    }

    private static void gasIsntFromAnywhere() {
        Doc.promise(5, "(What comes so, or goes, isn't from anywhere.)");
        TinStation x = Due.withModules(2);
        x.gas(0, 0, 500);
        Due.is("it comes", x.grams(), 500);
        Due.is("not from SPACE", x.tank(4, -1), 0);
        Due.is("nor from another MODULE", x.gas(1, 0, -1), 0);
        x.gas(0, 0, 100);
        Due.is("it goes", x.grams(), 100);
        Due.is("not to SPACE", x.tank(4, -1), 0);
        x.gas(0, 4, 100);
        x.gas(0, 4, 0);
        Due.is("HEAT neither", x.tank(5, -1), 0);
    }

    private static void leak() {
        Doc.promise(6, "LEAK of a MODULE: what it was. BEYOND.");
        TinStation x = Stations.full();
        for (int m = 0; m < 6; m++) {
            Due.is("the most", x.leak(m, 50), 0);
            Due.is("one less", x.leak(m, 49), 50);
            Due.is("the least", x.leak(m, 0), 49);
            Due.is("none", x.leak(m, 0), 0);
        }
        for (int w : Twins.far(-1, 51)) {
            Twins.refused("leak(0, w)", Stations::home, y -> y.leak(0, w), Due.BEYOND);
            Twins.refused("leak(2, w)", Stations::home, y -> y.leak(2, w), Due.BEYOND);
        }
        for (int w : Twins.far(-1, 3)) {
            Twins.refused("leak(w, 0)", Stations::home, y -> y.leak(w, 0), Due.BEYOND);
        }
        Twins.refused("the seventh", Stations::full, y -> y.leak(6, 1), Due.BEYOND);
        Twins.refused("without any", Stations::empty, y -> y.leak(0, 0), Due.BEYOND);
    }

    private static void tank() {
        Doc.promise(7, "A TANK (4: SPACE, grams; 5: SPACE, heat) has v (0 .. 1000000; -1: it "
                + "stays): what it had. BEYOND.");
        TinStation x = new TinStation();
        for (int t = 0; t < 6; t++) {
            Due.is("the most", x.tank(t, 1000000), 0);
            Due.is("it stays", x.tank(t, -1), 1000000);
            Due.is("the least", x.tank(t, 0), 1000000);
            Due.is("it stays 0", x.tank(t, -1), 0);
            Due.is("still 0", x.tank(t, 10 + t), 0);
        }
        for (int t = 0; t < 6; t++) {
            Due.is("each its own", x.tank(t, -1), 10 + t);
        }
        for (int w : Twins.far(-2, 1000001)) {
            for (int t = 0; t < 6; t++) {
                int one = t;
                Twins.refused("tank(t, w)", Stations::home, y -> y.tank(one, w), Due.BEYOND);
            }
        }
        for (int w : Twins.far(-1, 6)) {
            Twins.refused("tank(w, 1)", Stations::home, y -> y.tank(w, 1), Due.BEYOND);
            Twins.refused("tank(w, -1)", Stations::home, y -> y.tank(w, -1), Due.BEYOND);
        }
        fullerThanMayBeSet();
    }

    private static void fullerThanMayBeSet() {
        TinStation x = Due.withModules(1);
        x.tank(0, 1000000);
        x.tank(4, 1000000);
        x.tank(5, 1000000);
        x.gas(0, 2, 7);
        x.gas(0, 0, 20);
        x.gas(0, 4, 10);
        x.leak(0, 50);
        x.machine(3, 0, Due.use(9, 0, 0), 9);
        x.machine(5, 0, Due.use(1, 0, 0), 9);
        x.ticks(1);
        Due.is("what comes by itself isn't cut", x.tank(0, -1), 1000007);
        Due.is("SPACE's grams, too", x.tank(4, -1), 1000001);
        Due.is("SPACE's heat, too", x.tank(5, -1), 1000010);
    }

    private static void grams() {
        Doc.promise(8, "All grams: of MODULES, TANKS and SPACE.");
        TinStation x = Due.withModules(6);
        Due.is("none", x.grams(), 0);
        for (int m = 0; m < 6; m++) {
            for (int g = 0; g < 5; g++) {
                x.gas(m, g, 100000);
            }
        }
        Due.is("of MODULES, without HEAT", x.grams(), 6 * 4 * 100000);
        for (int t = 0; t < 4; t++) {
            x.tank(t, 1000000);
        }
        Due.is("and TANKS", x.grams(), 2400000 + 4000000);
        x.tank(4, 1000000);
        Due.is("and SPACE", x.grams(), 2400000 + 5000000);
        x.tank(5, 1000000);
        Due.is("SPACE's heat isn't grams", x.grams(), 7400000);
        TinStation y = Stations.home();
        int all = y.grams();
        for (int t = 0; t < 60; t++) {
            y.ticks(1);
            Due.is("each gram is somewhere", y.grams(), all);
        }
        Due.is("asking is no finding", y.found(1), 0);
    }
}
