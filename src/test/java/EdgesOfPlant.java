/** Boundary cases of machines, repairs, shedding and power; promises 13 to 21. */
final class EdgesOfPlant {
    private EdgesOfPlant() {
    }

    static void run() {
        atMostTenMachines();
        kindsUnderKinds();
        whatAMachineHas();
        whatAMachineComesWith();
        repairsGoOn();
        lightAndDark();
        whoRuns();
        whatTheBatteryIsThen();
        scrubber();
        splitter();
        dryer();
        still();
        cooler();
        wearAndHeat();
        sparesOfEachKind();
        toRepair();
        sheddingSets();
        sheddingTies();
        machine();
        machineBeyond();
        machineFull();
        as();
        asBeyond();
        asKind();
        turn();
        of();
        spares();
        repair();
        repairBeyond();
        repairState();
        repairNone();
        shed();
        shedBeyond();
        sun();
        sunBeyond();
        battery();
    }

    private static void atMostTenMachines() {
        Doc.terms("MACHINES 0, 1, .. (at most 10) are of KINDS:");
        TinStation x = Due.withModules(1);
        for (int i = 0; i < 10; i++) {
            Due.is("not there yet", x.of(i, 0), Due.BEYOND);
            Due.is("machine()", x.machine(i % 6, 0, 0, 1), i);
            Due.is("of its KIND", x.of(i, 0), i % 6);
        }
        Due.is("the eleventh", x.machine(0, 0, 0, 1), Due.FULL);
    }

    private static void kindsUnderKinds() {
        Doc.terms("0 MACHINE, 1 SCRUBBER under MACHINE, 2 SPLITTER under MACHINE, 3 DRYER under "
                + "MACHINE, 4 STILL under DRYER, 5 COOLER under MACHINE.");
        String[] is = {"100000", "110000", "101000", "100100", "100110", "100001"};
        TinStation x = Due.withModules(1);
        for (int k = 0; k < 6; k++) {
            x.machine(k, 0, Due.use(50 + k, 0, 0), 1);
            for (int as = 0; as < 6; as++) {
                int due = is[k].charAt(as) == '1' ? 50 + k : Due.KIND;
                Due.is("as(" + k + ", " + as + ")", x.as(k, as), due);
            }
        }
        Due.is("none below", x.machine(-1, 0, 0, 1), Due.BEYOND);
        Due.is("none above", x.machine(6, 0, 0, 1), Due.BEYOND);
    }

    private static void whatAMachineHas() {
        Doc.terms("Each is in a MODULE, has a RATE (0 .. 100), a POWER (0 .. 100), a HARM (0 .. "
                + "100), a LIFE (1 .. 1000);");
        TinStation x = Due.withModules(1);
        Due.is("the least of each", x.machine(0, 0, 0, 1), 0);
        Due.is("the most of each", x.machine(0, 0, 100100100, 1000), 1);
        for (int i = 0; i < 2; i++) {
            Due.is("RATE", x.as(i, 0), i * 100);
            Due.is("POWER", x.of(i, 2), i * 100);
            Due.is("HARM", x.of(i, 3), i * 100);
            Due.is("LIFE", x.of(i, 8), i == 0 ? 1 : 1000);
        }
        x.turn(0, 0);
        x.sun(500, 5000);
        Due.pass(x, 999);
        Due.is("one short of the longest LIFE", x.of(1, 6), 0);
        x.ticks(1);
        Due.is("the longest LIFE", x.of(1, 6), 1);
    }

    private static void whatAMachineComesWith() {
        Doc.terms("WEAR (0 when it comes); it is ON (when it comes) or not; a FAULT or none; it "
                + "RAN in the latest TICK or not.");
        TinStation x = Due.withModules(1);
        x.ticks(1);
        x.machine(0, 0, 0, 2);
        Due.is("WEAR", x.of(0, 4), 0);
        Due.is("ON", x.of(0, 5), 1);
        Due.is("no FAULT", x.of(0, 6), 0);
        Due.is("hasn't RUN", x.of(0, 7), 0);
        x.ticks(2);
        Due.is("RAN", x.of(0, 7), 1);
        Due.is("a FAULT", x.of(0, 6), 1);
        x.ticks(1);
        Due.is("not in the latest", x.of(0, 7), 0);
        x.machine(0, 0, 0, 2);
        x.turn(1, 0);
        x.ticks(1);
        Due.is("off", x.of(1, 7), 0);
    }

    private static TinStation broken(int kind) {
        TinStation x = Due.withModules(2);
        x.hatch(0, 1);
        x.person(0);
        x.person(0);
        x.person(1);
        x.machine(kind, 0, 0, 1);
        x.machine(kind, 0, 0, 1000);
        x.machine(kind, 1, 0, 1);
        x.spares(kind, 2);
        x.ticks(1);
        return x;
    }

    private static void repairsGoOn() {
        Doc.terms("(2) Who REPAIRS has one TICK less to go; at 0 the MACHINE has no FAULT, WEAR "
                + "0, and who did it is free again.");
        for (int hours : new int[] {1, 2, 60}) {
            TinStation x = broken(0);
            x.turn(0, 0);
            x.repair(0, 0, hours);
            for (int yet = hours - 1; yet > 0; yet--) {
                x.ticks(1);
                Due.is("TICKS yet", x.about(0, 3), yet);
                Due.is("FAULT yet", x.of(0, 6), 1);
                Due.is("WEAR yet", x.of(0, 4), 1);
                Due.is("not free", x.go(0, 1), Due.STATE);
            }
            x.ticks(1);
            Due.is("no FAULT", x.of(0, 6), 0);
            Due.is("WEAR", x.of(0, 4), 0);
            Due.is("who REPAIRS", x.count(9), 0);
            Due.is("free", x.go(0, 1), 1);
        }
        TinStation y = broken(0);
        y.repair(0, 0, 1);
        y.ticks(1);
        Due.is("ahead of POWER: it RAN", y.of(0, 7), 1);
        Due.is("and wears from 0", y.of(0, 4), 1);
        Due.is("so it has a FAULT again", y.of(0, 6), 1);
    }

    private static void lightAndDark() {
        Doc.terms("(3) POWER: SUN gives LIGHT (0 .. 500; 0 at first) in each TICK that isn't 6, "
                + "7, 8 modulo 9.");
        TinStation x = new TinStation();
        x.ticks(1);
        Due.is("none at first", x.battery(-1), 0);
        TinStation y = new TinStation();
        y.sun(1, 5000);
        int[] due = {1, 2, 3, 4, 5, 6, 6, 6, 6, 7, 8, 9, 10, 11, 12, 12, 12, 12, 13};
        for (int t = 0; t < due.length; t++) {
            y.ticks(1);
            Due.is("behind TICK " + t, y.battery(-1), due[t]);
        }
        Due.pass(y, 2998 - due.length);
        int had = y.battery(-1);
        y.ticks(1);
        Due.is("TICK 2998 is 1 modulo 9", y.battery(-1), had + 1);
        y.ticks(1);
        Due.is("the last, 2999, is 2 modulo 9", y.battery(-1), had + 2);
        TinStation z = new TinStation();
        z.sun(500, 5000);
        z.ticks(1);
        Due.is("the most", z.battery(0), 500);
        z.sun(0, 5000);
        z.ticks(1);
        Due.is("the least", z.battery(0), 0);
    }

    private static String ran(TinStation x) {
        StringBuilder s = new StringBuilder();
        for (int i = 0; i < x.count(3); i++) {
            s.append(x.of(i, 7));
        }
        return s.toString();
    }

    private static void whoRuns() {
        Doc.terms("MACHINES that are ON and have no FAULT NEED their POWER; by numbers each RUNS "
                + "if what SUN gives and THE BATTERY has, less the POWER of those that RUN "
                + "already, is its POWER or more.");
        int[] has = {0, 29, 30, 49, 50, 59, 60, 89, 90, 109, 110, 139, 140};
        String[] due = {"0001", "0001", "0011", "0011", "0101", "0101", "1001", "1001", "1011",
            "1011", "1101", "1101", "1111"};
        for (int i = 0; i < has.length; i++) {
            for (int light : new int[] {0, has[i] / 2, has[i]}) {
                TinStation x = loads(new int[] {60, 0}, new int[] {50, 0}, new int[] {30, 0},
                        new int[] {0, 0});
                x.sun(light, 1000);
                x.battery(has[i] - light);
                x.ticks(1);
                Due.same("who RAN with " + has[i], ran(x), due[i]);
            }
        }
        TinStation y = Due.withModules(1);
        y.machine(0, 0, Due.use(0, 60, 0), 9);
        y.machine(0, 0, Due.use(0, 60, 0), 9);
        y.machine(0, 0, Due.use(0, 60, 0), 1);
        y.turn(0, 0);
        y.battery(120);
        y.ticks(1);
        Due.same("off: needs none", ran(y), "011");
        y.battery(120);
        y.turn(0, 1);
        y.ticks(1);
        Due.same("a FAULT: needs none", ran(y), "110");
    }

    private static void whatTheBatteryIsThen() {
        Doc.terms("What SUN gave and THE BATTERY had, less what was needed for those, is THE "
                + "BATTERY then, STORE (0 .. 5000; 1000 at first) at most.");
        int[][] due = {{0, 0, 1000, 0}, {0, 49, 1000, 49}, {0, 50, 1000, 0}, {0, 51, 1000, 1},
            {50, 0, 1000, 0}, {60, 0, 10, 10}, {61, 0, 10, 10}, {59, 0, 10, 9},
            {500, 5000, 5000, 5000}, {50, 5000, 5000, 5000}, {49, 5000, 5000, 4999},
            {500, 0, 0, 0}};
        for (int[] d : due) {
            TinStation x = Due.withModules(1);
            x.machine(0, 0, Due.use(0, 50, 0), 9);
            x.sun(d[0], d[2]);
            x.battery(d[1]);
            x.ticks(1);
            Due.is("LIGHT " + d[0] + ", had " + d[1], x.battery(-1), d[3]);
        }
        TinStation y = new TinStation();
        Due.is("STORE at first", y.battery(1000), 0);
        Due.is("not more", y.battery(1001), Due.BEYOND);
        TinStation z = Due.withModules(1);
        z.machine(0, 0, Due.use(0, 100, 0), 9);
        z.sun(100, 0);
        z.ticks(1);
        Due.is("what isn't stored may be used", z.of(0, 7), 1);
    }

    /** One machine alone in module 1, ready for a tick. */
    private static TinStation only(int kind, int rate) {
        TinStation x = Due.withModules(2);
        x.machine(kind, 1, Due.use(rate, 0, 0), 9);
        return x;
    }

    private static void scrubber() {
        Doc.terms("(4) MACHINES that RUN work, by numbers: a SCRUBBER takes CARBON of its "
                + "MODULE, RATE at most, to COAL.");
        int[][] due = {{0, 9, 0}, {5, 9, 5}, {9, 9, 9}, {10, 9, 9}, {100000, 100, 100}, {50, 0, 0}};
        for (int[] d : due) {
            TinStation x = only(1, d[1]);
            x.gas(0, 1, 77);
            x.gas(1, 1, d[0]);
            x.ticks(1);
            Due.is("CARBON of " + d[0], x.gas(1, 1, -1), d[0] - d[2]);
            Due.is("COAL of " + d[0], x.tank(3, -1), d[2]);
            Due.is("elsewhere", x.gas(0, 1, -1), 77);
        }
        TinStation y = only(1, 9);
        y.machine(1, 1, Due.use(9, 0, 0), 9);
        y.gas(1, 1, 12);
        y.ticks(1);
        Due.is("both together", y.tank(3, -1), 12);
    }

    private static void splitter() {
        Doc.terms("A SPLITTER takes WATER, RATE at most: 8 ninths of it come as OXYGEN to its "
                + "MODULE, the rest to SPACE.");
        int[][] due = {{0, 50, 0, 0}, {1, 50, 1, 0}, {2, 50, 2, 1}, {8, 50, 8, 7}, {9, 50, 9, 8},
            {10, 50, 10, 8}, {50, 50, 50, 44}, {51, 50, 50, 44}, {1000000, 100, 100, 88},
            {50, 0, 0, 0}};
        for (int[] d : due) {
            TinStation x = only(2, d[1]);
            x.tank(0, d[0]);
            x.ticks(1);
            Due.is("WATER of " + d[0], x.tank(0, -1), d[0] - d[2]);
            Due.is("OXYGEN of " + d[0], x.gas(1, 0, -1), d[3]);
            Due.is("SPACE of " + d[0], x.tank(4, -1), d[2] - d[3]);
            Due.is("elsewhere", x.gas(0, 0, -1), 0);
        }
    }

    private static void dryer() {
        Doc.terms("A DRYER takes VAPOUR of its MODULE, RATE at most, to WATER.");
        int[][] due = {{0, 9, 0}, {8, 9, 8}, {9, 9, 9}, {10, 9, 9}, {100000, 100, 100}, {50, 0, 0}};
        for (int[] d : due) {
            TinStation x = only(3, d[1]);
            x.gas(0, 2, 77);
            x.gas(1, 2, d[0]);
            x.ticks(1);
            Due.is("VAPOUR of " + d[0], x.gas(1, 2, -1), d[0] - d[2]);
            Due.is("WATER of " + d[0], x.tank(0, -1), d[2]);
            Due.is("elsewhere", x.gas(0, 2, -1), 77);
        }
    }

    private static void still() {
        Doc.terms("A STILL takes WASTE, RATE at most: 3 quarters of it come to WATER, the rest to "
                + "BRINE.");
        int[][] due = {{0, 50, 0, 0}, {1, 50, 1, 0}, {2, 50, 2, 1}, {3, 50, 3, 2}, {4, 50, 4, 3},
            {5, 50, 5, 3}, {50, 50, 50, 37}, {51, 50, 50, 37}, {1000000, 100, 100, 75},
            {50, 0, 0, 0}};
        for (int[] d : due) {
            TinStation x = only(4, d[1]);
            x.tank(1, d[0]);
            x.gas(1, 2, 33);
            x.ticks(1);
            Due.is("WASTE of " + d[0], x.tank(1, -1), d[0] - d[2]);
            Due.is("WATER of " + d[0], x.tank(0, -1), d[3]);
            Due.is("BRINE of " + d[0], x.tank(2, -1), d[2] - d[3]);
            Due.is("it doesn't dry the air", x.gas(1, 2, -1), 33);
        }
    }

    private static void cooler() {
        Doc.terms("A COOLER takes HEAT of its MODULE, 10 times its RATE at most, to SPACE.");
        int[][] due = {{0, 9, 0}, {89, 9, 89}, {90, 9, 90}, {91, 9, 90}, {100000, 100, 1000},
            {999, 100, 999}, {50, 0, 0}};
        for (int[] d : due) {
            TinStation x = only(5, d[1]);
            x.gas(0, 4, 77);
            x.gas(1, 4, d[0]);
            x.ticks(1);
            Due.is("HEAT of " + d[0], x.gas(1, 4, -1), d[0] - d[2] + 2);
            Due.is("SPACE of " + d[0], x.tank(5, -1), d[2]);
            Due.is("elsewhere", x.gas(0, 4, -1), 77);
            Due.is("no grams", x.grams(), 0);
        }
    }

    private static void wearAndHeat() {
        Doc.terms("Each that RUNS has 1 more WEAR, and 2 more HEAT in its MODULE; when WEAR is "
                + "its LIFE it has a FAULT.");
        for (int life : new int[] {1, 2, 3, 1000}) {
            TinStation x = Due.withModules(1);
            x.machine(0, 0, 0, life);
            Due.pass(x, life - 1);
            Due.is("one short of its LIFE", x.of(0, 6), 0);
            Due.is("WEAR", x.of(0, 4), life - 1);
            x.ticks(1);
            Due.is("its LIFE", x.of(0, 6), 1);
            Due.is("WEAR", x.of(0, 4), life);
            Due.is("RAN in it", x.of(0, 7), 1);
            x.ticks(1);
            Due.is("no more WEAR", x.of(0, 4), life);
            Due.is("HEAT of each that it RAN", x.gas(0, 4, -1), 2 * life);
        }
        TinStation y = Due.withModules(1);
        y.machine(0, 0, Due.use(0, 1, 0), 5);
        y.ticks(9);
        Due.is("no POWER, no WEAR", y.of(0, 4), 0);
        Due.is("no HEAT", y.gas(0, 4, -1), 0);
    }

    private static void sparesOfEachKind() {
        Doc.terms("SPARES for each KIND.");
        TinStation x = new TinStation();
        for (int k = 0; k < 6; k++) {
            Due.is("none at first", x.spares(k, k + 1), 0);
        }
        for (int k = 0; k < 6; k++) {
            Due.is("each its own", x.spares(k, -1), k + 1);
        }
        TinStation y = Due.withModules(1);
        y.person(0);
        y.machine(4, 0, 0, 1);
        y.ticks(1);
        y.spares(3, 5);
        y.spares(0, 5);
        Due.is("one of a KIND above won't do", y.repair(0, 0, 1), Due.NONE);
        y.spares(4, 1);
        Due.is("its own KIND", y.repair(0, 0, 1), 0);
        Due.is("others stay", y.spares(3, -1), 5);
    }

    private static void toRepair() {
        Doc.terms("TO REPAIR: a MACHINE with a FAULT, by one who is in its MODULE and doesn't "
                + "REPAIR: a SPARE of its KIND is spent, it takes HOURS (1 .. 60) TICKS, in "
                + "which who does it can't go anywhere else, and is DOING 1.");
        Due.is("0 HOURS", broken(0).repair(0, 0, 0), Due.BEYOND);
        Due.is("1 HOUR", broken(0).repair(0, 0, 1), 1);
        Due.is("60 HOURS", broken(0).repair(0, 0, 60), 1);
        Due.is("61 HOURS", broken(0).repair(0, 0, 61), Due.BEYOND);
        for (int d = 0; d < 3; d++) {
            TinStation x = broken(0);
            x.doing(0, d);
            x.repair(0, 0, 2);
            Due.is("DOING 1", x.about(0, 1), 1);
            Due.is("can't go", x.go(0, 1), Due.STATE);
            Due.is("a SPARE is spent", x.spares(0, -1), 1);
            x.gas(0, 4, 0);
            x.shut(0, 0);
            x.turn(1, 0);
            x.turn(2, 0);
            x.ticks(1);
            Due.is("HEAT of one at work and of one asleep", x.gas(0, 4, -1), 25);
            Due.is("can't go yet", x.go(0, 1), Due.STATE);
        }
    }

    private static TinStation loads(int[]... powerAndHarm) {
        TinStation x = Due.withModules(1);
        for (int[] p : powerAndHarm) {
            x.machine(0, 0, Due.use(0, p[0], p[1]), 9);
        }
        return x;
    }

    private static void sheddingSets() {
        Doc.terms("SHEDDING to a power P: of all sets of MACHINES that are ON and have no FAULT "
                + "the one that, switched off, leaves POWERS of the others together not above P, "
                + "with the least HARM together;");
        int[][] both = {{30, 1}, {20, 2}};
        Due.is("all at P", loads(both).shed(50, 0), 0);
        Due.is("just below", loads(both).shed(49, 0), 1);
        Due.is("the rest at P", loads(both).shed(20, 0), 1);
        Due.is("the rest just above", loads(both).shed(19, 0), 3);
        Due.is("to none", loads(both).shed(0, 0), 3);
        TinStation off = loads(both);
        off.turn(0, 0);
        Due.is("off is no load", off.shed(20, 0), 0);
        Due.is("off isn't shed", off.shed(0, 0), 2);
        TinStation fault = Due.withModules(1);
        fault.machine(0, 0, Due.use(0, 0, 1), 1);
        fault.machine(0, 0, Due.use(0, 5, 1), 9);
        fault.ticks(1);
        Due.is("a FAULT isn't shed", fault.shed(0, 0), 2);
        Due.is("one of no POWER stays", loads(new int[] {0, 0}, new int[] {9, 100}).shed(0, 0), 2);
        Due.is("two of less HARM together", loads(new int[] {40, 9}, new int[] {20, 4},
                new int[] {20, 4}).shed(40, 0), 6);
    }

    private static void sheddingTies() {
        Doc.terms("of several the one with the fewest, then the one that is less as bits.");
        Due.is("one of HARM 8 ahead of two of 4", loads(new int[] {20, 4}, new int[] {20, 4},
                new int[] {40, 8}).shed(40, 0), 4);
        Due.is("the first of three alike", loads(new int[] {20, 4}, new int[] {20, 4},
                new int[] {20, 4}).shed(40, 0), 1);
        Due.is("two of three alike", loads(new int[] {20, 4}, new int[] {20, 4},
                new int[] {20, 4}).shed(20, 0), 3);
        int[] idle = {0, 0};
        Due.is("none of HARM 0 that needn't", loads(idle, idle).shed(0, 0), 0);
        int[] alike = {10, 0};
        TinStation ten = loads(alike, alike, alike, alike, alike, alike, alike, alike, alike,
                alike);
        for (int stay = 0; stay <= 10; stay++) {
            Due.is(stay + " may stay", ten.shed(10 * stay, 0), (1 << 10 - stay) - 1);
        }
    }

    private static void machine() {
        Doc.promise(13, "A MACHINE comes: its number. use: 1000000 times RATE, and 1000 times "
                + "POWER, and HARM;");
        int[][] due = {{0, 0, 0, 0}, {1, 0, 0, 1}, {100, 0, 0, 100}, {1000, 0, 1, 0},
            {100000, 0, 100, 0}, {1000000, 1, 0, 0}, {100000000, 100, 0, 0}, {99099099, 99, 99, 99},
            {1001001, 1, 1, 1}, {100100100, 100, 100, 100}};
        TinStation x = Due.withModules(6);
        for (int i = 0; i < 10; i++) {
            Due.is("its number", x.machine(i % 6, i % 6, due[i][0], 1 + 111 * i), i);
            Due.is("RATE of " + due[i][0], x.as(i, 0), due[i][1]);
            Due.is("POWER of " + due[i][0], x.of(i, 2), due[i][2]);
            Due.is("HARM of " + due[i][0], x.of(i, 3), due[i][3]);
            Due.is("LIFE", x.of(i, 8), 1 + 111 * i);
        }
    }

    private static void machineBeyond() {
        Doc.promise(13, "BEYOND: kind, there is no such MODULE, use or life isn't as told.");
        for (int w : Twins.far(-1, 6)) {
            Twins.refused("kind w", Stations::home, x -> x.machine(w, 0, 0, 1), Due.BEYOND);
        }
        for (int w : Twins.far(-1, 3)) {
            Twins.refused("MODULE w", Stations::home, x -> x.machine(0, w, 0, 1), Due.BEYOND);
        }
        for (int w : Twins.far(-1, 101, 999, 101000, 999000, 101000000, 100100101, 100101000, -1000,
                -1000000, -100100100)) {
            Twins.refused("use " + w, Stations::home, x -> x.machine(0, 0, w, 1), Due.BEYOND);
        }
        for (int w : Twins.far(-1, 0, 1001)) {
            Twins.refused("life w", Stations::home, x -> x.machine(0, 0, 0, w), Due.BEYOND);
        }
        Twins.refused("no MODULES", Stations::empty, x -> x.machine(0, 0, 0, 1), Due.BEYOND);
    }

    private static void machineFull() {
        Doc.promise(13, "FULL.");
        TinStation x = Due.withModules(1);
        for (int i = 0; i < 9; i++) {
            x.machine(0, 0, 0, 1);
        }
        Due.is("the tenth", x.machine(0, 0, 0, 1), 9);
        Twins.refused("the eleventh", Stations::full, y -> y.machine(0, 0, 0, 1), Due.FULL);
        Twins.refused("of none", Stations::full, y -> y.machine(6, 0, 0, 1), Due.BEYOND);
    }

    private static void as() {
        Doc.promise(14, "A MACHINE as one of a kind: its RATE.");
        TinStation x = Due.withModules(1);
        x.machine(4, 0, Due.use(0, 9, 9), 1);
        x.machine(4, 0, Due.use(100, 9, 9), 1);
        for (int k : new int[] {0, 3, 4}) {
            Due.is("the least RATE", x.as(0, k), 0);
            Due.is("the greatest RATE", x.as(1, k), 100);
        }
        x.turn(0, 0);
        Due.is("off or not", x.as(0, 0), 0);
    }

    private static void asBeyond() {
        Doc.promise(14, "BEYOND: there is no such one, or kind.");
        for (int w : Twins.far(-1, 4)) {
            Twins.refused("as(w, 0)", Stations::home, x -> x.as(w, 0), Due.BEYOND);
        }
        for (int w : Twins.far(-1, 6)) {
            Twins.refused("as(0, w)", Stations::home, x -> x.as(0, w), Due.BEYOND);
        }
        Twins.refused("the eleventh", Stations::full, x -> x.as(10, 0), Due.BEYOND);
        Twins.refused("without any", Stations::empty, x -> x.as(0, 0), Due.BEYOND);
    }

    private static void asKind() {
        Doc.promise(14, "KIND: it isn't of that kind, nor of one under it.");
        Twins.refused("a SCRUBBER as SPLITTER", Stations::home, x -> x.as(0, 2), Due.KIND);
        Twins.refused("a SCRUBBER as COOLER", Stations::home, x -> x.as(0, 5), Due.KIND);
        Twins.refused("a DRYER as STILL", Stations::home, x -> x.as(2, 4), Due.KIND);
        Twins.refused("a STILL as COOLER", Stations::home, x -> x.as(3, 5), Due.KIND);
        Twins.refused("a MACHINE as SCRUBBER", Stations::full, x -> x.as(0, 1), Due.KIND);
        Due.is("a STILL as DRYER", Stations.home().as(3, 3), 8);
        Due.is("a STILL as MACHINE", Stations.home().as(3, 0), 8);
    }

    private static void turn() {
        Doc.promise(15, "A MACHINE is ON (1), or off (0): what it was. BEYOND.");
        TinStation x = Stations.full();
        for (int i = 0; i < 10; i++) {
            Due.is("to off", x.turn(i, 0), 1);
            Due.is("off yet", x.turn(i, 0), 0);
            Due.is("to ON", x.turn(i, 1), 0);
            Due.is("ON yet", x.turn(i, 1), 1);
        }
        for (int w : Twins.far(-1, 2)) {
            Twins.refused("turn(0, w)", Stations::home, y -> y.turn(0, w), Due.BEYOND);
            Twins.refused("turn(2, w), off", Stations::home, y -> y.turn(2, w), Due.BEYOND);
        }
        for (int w : Twins.far(-1, 4)) {
            Twins.refused("turn(w, 0)", Stations::home, y -> y.turn(w, 0), Due.BEYOND);
        }
        Twins.refused("the eleventh", Stations::full, y -> y.turn(10, 1), Due.BEYOND);
        TinStation fault = Stations.home();
        Due.is("one with a FAULT, too", fault.turn(3, 0), 1);
        Due.is("one that is REPAIRED, too", fault.turn(1, 0), 1);
        fault.ticks(30);
        Due.is("it stays off", fault.of(1, 5), 0);
        Due.is("with no FAULT", fault.of(1, 6), 0);
    }

    private static void of() {
        Doc.promise(16, "Of a MACHINE: 0 KIND, 1 MODULE, 2 POWER, 3 HARM, 4 WEAR, 5 1 if ON, 6 1 "
                + "if it has a FAULT, 7 1 if it RAN, 8 LIFE. BEYOND.");
        TinStation x = Stations.home();
        int[][] due = {{1, 0, 10, 5, 3, 1, 0, 1, 100}, {2, 1, 20, 7, 1, 1, 1, 0, 1},
            {3, 0, 5, 3, 0, 0, 0, 0, 100}, {4, 1, 3, 9, 1, 1, 1, 0, 1}};
        for (int i = 0; i < 4; i++) {
            for (int what = 0; what < 9; what++) {
                Due.is("of(" + i + ", " + what + ")", x.of(i, what), due[i][what]);
            }
        }
        for (int w : Twins.far(-1, 9)) {
            Twins.refused("of(0, w)", Stations::home, y -> y.of(0, w), Due.BEYOND);
        }
        for (int w : Twins.far(-1, 4)) {
            Twins.refused("of(w, 0)", Stations::home, y -> y.of(w, 0), Due.BEYOND);
        }
        Twins.refused("the eleventh", Stations::full, y -> y.of(10, 8), Due.BEYOND);
    }

    private static void spares() {
        Doc.promise(17, "SPARES of a KIND become n (0 .. 20; -1: they stay): what they were. "
                + "BEYOND.");
        TinStation x = new TinStation();
        for (int k = 0; k < 6; k++) {
            Due.is("the most", x.spares(k, 20), 0);
            Due.is("they stay", x.spares(k, -1), 20);
            Due.is("the least", x.spares(k, 0), 20);
            Due.is("they stay none", x.spares(k, -1), 0);
        }
        for (int w : Twins.far(-2, 21)) {
            Twins.refused("spares(0, w)", Stations::home, y -> y.spares(0, w), Due.BEYOND);
            Twins.refused("spares(5, w)", Stations::home, y -> y.spares(5, w), Due.BEYOND);
        }
        for (int w : Twins.far(-1, 6)) {
            Twins.refused("spares(w, 1)", Stations::home, y -> y.spares(w, 1), Due.BEYOND);
            Twins.refused("spares(w, -1)", Stations::home, y -> y.spares(w, -1), Due.BEYOND);
        }
    }

    private static void repair() {
        Doc.promise(18, "One begins to REPAIR a MACHINE: SPARES that are left.");
        TinStation x = broken(5);
        x.spares(5, 20);
        Due.is("19 of the most", x.repair(0, 0, 60), 19);
        Due.is("the last of them", x.spares(5, 1), 19);
        Due.is("none is left", x.repair(2, 2, 1), 0);
        Due.is("both REPAIR", x.count(9), 2);
    }

    private static void repairBeyond() {
        Doc.promise(18, "BEYOND: there is no such one, or hours isn't as told.");
        for (int w : Twins.far(-1, 3)) {
            Twins.refused("repair(w, 0, 1)", () -> broken(0), x -> x.repair(w, 0, 1), Due.BEYOND);
            Twins.refused("repair(0, w, 1)", () -> broken(0), x -> x.repair(0, w, 1), Due.BEYOND);
        }
        for (int w : Twins.far(-1, 0, 61)) {
            Twins.refused("repair(0, 0, w)", () -> broken(0), x -> x.repair(0, 0, w), Due.BEYOND);
            Twins.refused("of no FAULT", () -> broken(0), x -> x.repair(0, 1, w), Due.BEYOND);
            Twins.refused("by who REPAIRS", Stations::home, x -> x.repair(1, 3, w), Due.BEYOND);
        }
        Twins.refused("the seventh", Stations::full, x -> x.repair(6, 0, 1), Due.BEYOND);
        Twins.refused("the eleventh", Stations::full, x -> x.repair(0, 10, 1), Due.BEYOND);
    }

    private static void repairState() {
        Doc.promise(18, "STATE: it has no FAULT, or is REPAIRED already; who it is REPAIRS, or is "
                + "elsewhere.");
        Twins.refused("no FAULT", () -> broken(0), x -> x.repair(0, 1, 1), Due.STATE);
        Twins.refused("elsewhere", () -> broken(0), x -> x.repair(2, 0, 1), Due.STATE);
        Twins.refused("elsewhere, too", () -> broken(0), x -> x.repair(0, 2, 1), Due.STATE);
        Twins.refused("is REPAIRED", () -> repairing(), x -> x.repair(1, 0, 1), Due.STATE);
        Twins.refused("who REPAIRS it", () -> repairing(), x -> x.repair(0, 0, 1), Due.STATE);
        Twins.refused("who REPAIRS another", Stations::home, x -> x.repair(1, 3, 1), Due.STATE);
        TinStation x = repairing();
        x.ticks(9);
        Due.is("REPAIRED a TICK yet", x.repair(1, 0, 1), Due.STATE);
        x.ticks(1);
        Due.is("worn out again at once", x.of(0, 6), 1);
        Due.is("both are free then", x.repair(1, 0, 1), 0);
        Due.is("it is REPAIRED by the other now", x.repair(0, 0, 1), Due.STATE);
    }

    private static TinStation repairing() {
        TinStation x = broken(0);
        x.repair(0, 0, 10);
        return x;
    }

    private static TinStation bare() {
        TinStation x = broken(0);
        x.spares(0, 0);
        for (int k = 1; k < 6; k++) {
            x.spares(k, 20);
        }
        return x;
    }

    private static void repairNone() {
        Doc.promise(18, "NONE: there is no SPARE.");
        Twins.refused("repair(0, 0, 1)", () -> bare(), x -> x.repair(0, 0, 1), Due.NONE);
        Twins.refused("repair(2, 2, 60)", () -> bare(), x -> x.repair(2, 2, 60), Due.NONE);
        Twins.refused("no FAULT either", () -> bare(), x -> x.repair(0, 1, 1), Due.STATE);
        TinStation x = bare();
        x.spares(0, 1);
        Due.is("one", x.repair(0, 0, 1), 0);
        Due.is("spent", x.repair(2, 2, 1), Due.NONE);
    }

    private static void shed() {
        Doc.promise(19, "SHEDDING to a power (0 .. 1000): what 0 as bits, 1 HARM, 2 POWERS of the "
                + "others.");
        TinStation none = new TinStation();
        int[] most = {100, 100};
        TinStation ten = loads(most, most, most, most, most, most, most, most, most, most);
        int[][] due = {{1023, 1000, 0}, {511, 900, 100}, {1, 100, 900}, {0, 0, 1000}};
        int[] power = {0, 100, 999, 1000};
        for (int what = 0; what < 3; what++) {
            Due.is("of none, to 0", none.shed(0, what), 0);
            Due.is("of none, to 1000", none.shed(1000, what), 0);
            for (int i = 0; i < 4; i++) {
                Due.is("what " + what + " to " + power[i], ten.shed(power[i], what), due[i][what]);
            }
        }
        for (int i = 0; i < 10; i++) {
            Due.is("nothing is switched", ten.of(i, 5), 1);
            ten.turn(i, 0);
        }
        Due.is("all off", ten.shed(0, 0), 0);
        Due.is("POWERS of none", ten.shed(1000, 2), 0);
    }

    private static void shedBeyond() {
        Doc.promise(19, "BEYOND.");
        for (int w : Twins.far(-1, 1001)) {
            for (int what = 0; what < 3; what++) {
                int asked = what;
                Twins.refused("shed(w, what)", Stations::home, x -> x.shed(w, asked), Due.BEYOND);
            }
        }
        for (int w : Twins.far(-1, 3)) {
            Twins.refused("shed(0, w)", Stations::home, x -> x.shed(0, w), Due.BEYOND);
            Twins.refused("shed(1000, w)", Stations::full, x -> x.shed(1000, w), Due.BEYOND);
        }
    }

    private static void sun() {
        Doc.promise(20, "LIGHT and STORE: THE BATTERY then (cut down to STORE).");
        TinStation x = new TinStation();
        x.battery(1000);
        Due.is("STORE as it is", x.sun(0, 1000), 1000);
        Due.is("one less", x.sun(0, 999), 999);
        Due.is("it stays cut", x.sun(0, 1000), 999);
        Due.is("the most of both", x.sun(500, 5000), 999);
        Due.is("THE BATTERY may have as much", x.battery(5000), 999);
        Due.is("the least of both", x.sun(0, 0), 0);
        Due.is("THE BATTERY may have none", x.battery(0), 0);
        Due.is("not one", x.battery(1), Due.BEYOND);
        Due.is("LIGHT comes only in a TICK", x.sun(500, 5000), 0);
        x.ticks(1);
        Due.is("then", x.battery(-1), 500);
    }

    private static void sunBeyond() {
        Doc.promise(20, "BEYOND.");
        for (int w : Twins.far(-1, 501)) {
            Twins.refused("sun(w, 10)", Stations::home, x -> x.sun(w, 10), Due.BEYOND);
        }
        for (int w : Twins.far(-1, 5001)) {
            Twins.refused("sun(10, w)", Stations::home, x -> x.sun(10, w), Due.BEYOND);
        }
        Twins.refused("both", Stations::home, x -> x.sun(501, 5001), Due.BEYOND);
    }

    private static void battery() {
        Doc.promise(21, "THE BATTERY has v (0 .. STORE; -1: it stays): what it had. BEYOND.");
        for (int store : new int[] {0, 1, 300, 5000}) {
            TinStation x = new TinStation();
            x.sun(0, store);
            Due.is("STORE", x.battery(store), 0);
            Due.is("one more", x.battery(store + 1), Due.BEYOND);
            Due.is("it stays", x.battery(-1), store);
            Due.is("none", x.battery(0), store);
            Due.is("it stays none", x.battery(-1), 0);
        }
        for (int w : Twins.far(-2, 301)) {
            Twins.refused("battery(w)", Stations::home, x -> x.battery(w), Due.BEYOND);
        }
        Twins.refused("at first", Stations::empty, x -> x.battery(1001), Due.BEYOND);
    }
}
