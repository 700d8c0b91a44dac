/** Boundary cases of ships and of what is told; promises 41 to 47. */
final class EdgesOfShips {
    private EdgesOfShips() {
    }

    static void run() {
        massAndSpeed();
        shipDocks();
        shipUndocks();
        mass();
        massBeyond();
        dock();
        dockBeyond();
        dockState();
        undock();
        undockBeyond();
        undockState();
        tell();
        check();
        checkBeyond();
        count();
        countBeyond();
        found();
        foundBeyond();
    }

    private static TinStation of(int mass, int speed) {
        TinStation x = new TinStation();
        x.mass(0, mass);
        x.mass(1, speed);
        return x;
    }

    private static void massAndSpeed() {
        Doc.terms("MASS of the station (1 .. 10000000; 400000 at first), SPEED (-1000 .. 1000 a "
                + "TICK; 0 at first).");
        TinStation x = new TinStation();
        Due.is("MASS at first", x.mass(0, 1), 400000);
        Due.is("SPEED at first", x.mass(1, -1000), 0);
        Due.is("the least MASS", x.mass(0, 10000000), 1);
        Due.is("the least SPEED", x.mass(1, 1000), -1000);
        Due.is("the greatest MASS", x.mass(0, Due.LOW), 10000000);
        Due.is("the greatest SPEED", x.mass(1, Due.LOW), 1000);
        x.ticks(100);
        Due.is("TICKS don't change it", x.mass(1, Due.LOW), 1000);
    }

    private static void shipDocks() {
        Doc.terms("A SHIP of a mass with a speed docks: both go on with what their speeds times "
                + "masses together are by both masses; MASS is more by it.");
        int[][] due = {{1, 0, 1, 1, 0}, {1, 0, 1, -1, 0}, {1, 1, 1, 2, 1}, {1, -1, 1, -2, -1},
            {2, 10, 1, -20, 0}, {2, 10, 1, -22, 0}, {2, 10, 1, -23, -1}, {2, 10, 1, -18, 0},
            {2, 10, 1, -17, 1}, {5000000, 1000, 5000000, 1000, 1000},
            {5000000, -1000, 5000000, -1000, -1000}, {5000000, 1000, 5000000, -1000, 0},
            {9999999, 1000, 1, -1000, 999}, {9999999, -1000, 1, 1000, -999},
            {1, 1000, 9999999, -1000, -999}};
        for (int[] d : due) {
            TinStation x = of(d[0], d[1]);
            Due.is("SPEED then", x.dock(d[2], d[3]), d[4]);
            Due.is("kept", x.mass(1, Due.LOW), d[4]);
            Due.is("MASS is more", x.mass(0, Due.LOW), d[0] + d[2]);
        }
    }

    private static void shipUndocks() {
        Doc.terms("A SHIP that undocks: MASS is less by it.");
        TinStation x = of(10000000, 1000);
        Due.is("all but one", x.undock(9999999), 1);
        Due.is("MASS", x.mass(0, Due.LOW), 1);
        Due.is("SPEED stays", x.mass(1, Due.LOW), 1000);
    }

    private static void mass() {
        Doc.promise(41, "MASS and SPEED of the station: what 0, 1; v: they become that (LOW: "
                + "they stay): what it was.");
        TinStation x = new TinStation();
        Due.is("MASS becomes", x.mass(0, 77), 400000);
        Due.is("MASS stays", x.mass(0, Due.LOW), 77);
        Due.is("MASS stayed", x.mass(0, Due.LOW), 77);
        Due.is("SPEED becomes", x.mass(1, -1), 0);
        Due.is("SPEED of -1 is one", x.mass(1, Due.LOW), -1);
        Due.is("SPEED stayed", x.mass(1, 0), -1);
        Due.is("one isn't the other", x.mass(0, Due.LOW), 77);
    }

    private static void massBeyond() {
        Doc.promise(41, "BEYOND: another what, or v isn't as told.");
        for (int w : Twins.far(-1, 2)) {
            Twins.refused("mass(w, 5)", Stations::home, x -> x.mass(w, 5), Due.BEYOND);
            Twins.refused("mass(w, LOW)", Stations::home, x -> x.mass(w, Due.LOW), Due.BEYOND);
        }
        for (int w : Twins.far(-1, 0, 10000001, Due.LOW - 1, Due.LOW + 1)) {
            Twins.refused("mass(0, w)", Stations::home, x -> x.mass(0, w), Due.BEYOND);
        }
        for (int w : Twins.far(-1001, 1001, Due.LOW - 1, Due.LOW + 1)) {
            Twins.refused("mass(1, w)", Stations::home, x -> x.mass(1, w), Due.BEYOND);
        }
    }

    private static void dock() {
        Doc.promise(42, "A SHIP docks: SPEED then.");
        Due.is("the lightest", of(1, 0).dock(1, 1000), 500);
        Due.is("the heaviest", of(1, 0).dock(9999999, 1000), 999);
        Due.is("the fastest back", of(1, 0).dock(1, -1000), -500);
        Due.is("one that rests", of(1, 9).dock(2, 0), 3);
        TinStation x = of(1, 1);
        for (int n = 2; n <= 20; n++) {
            x.dock(1, 1);
            Due.is("one more", x.mass(0, Due.LOW), n);
        }
    }

    private static void dockBeyond() {
        Doc.promise(42, "BEYOND: mass isn't 1 .. 10000000, speed not -1000 .. 1000.");
        for (int w : Twins.far(-1, 0, 10000001)) {
            Twins.refused("dock(w, 0)", Stations::home, x -> x.dock(w, 0), Due.BEYOND);
        }
        for (int w : Twins.far(-1001, 1001, Due.LOW)) {
            Twins.refused("dock(1, w)", Stations::home, x -> x.dock(1, w), Due.BEYOND);
            Twins.refused("too heavy, too", Stations::home, x -> x.dock(10000000, w), Due.BEYOND);
        }
    }

    private static void dockState() {
        Doc.promise(42, "STATE: MASS would be above 10000000.");
        Due.is("just 10000000", Stations.home().dock(9995000, 0), 0);
        Twins.refused("one more", Stations::home, x -> x.dock(9995001, 0), Due.STATE);
        Twins.refused("the heaviest", Stations::home, x -> x.dock(10000000, 0), Due.STATE);
        TinStation x = of(10000000, 5);
        Due.is("none any more", x.dock(1, 0), Due.STATE);
        Due.is("MASS", x.mass(0, Due.LOW), 10000000);
        Due.is("SPEED", x.mass(1, Due.LOW), 5);
    }

    private static void undock() {
        Doc.promise(43, "A SHIP undocks: MASS then.");
        Due.is("the lightest", Stations.home().undock(1), 4999);
        Due.is("the heaviest", Stations.home().undock(4999), 1);
        TinStation x = of(10, -7);
        x.dock(5, -7);
        Due.is("as it was", x.undock(5), 10);
        Due.is("SPEED stays", x.mass(1, Due.LOW), -7);
    }

    private static void undockBeyond() {
        Doc.promise(43, "BEYOND: mass isn't 1 .. 10000000.");
        for (int w : Twins.far(-1, 0, 10000001)) {
            Twins.refused("undock(w)", Stations::home, x -> x.undock(w), Due.BEYOND);
        }
    }

    private static void undockState() {
        Doc.promise(43, "STATE: MASS would be below 1.");
        Twins.refused("just all", Stations::home, x -> x.undock(5000), Due.STATE);
        Twins.refused("one more", Stations::home, x -> x.undock(5001), Due.STATE);
        Twins.refused("the heaviest", Stations::home, x -> x.undock(10000000), Due.STATE);
        Due.is("of 1", of(1, 0).undock(1), Due.STATE);
        Due.is("10000000 of 10000000", of(10000000, 0).undock(10000000), Due.STATE);
    }

    private static void tell() {
        Doc.promise(44, "One more number waits: how many. FULL: 24 wait.");
        TinStation x = new TinStation();
        int[] any = {0, -1, Due.LOW, Due.BEYOND, Due.KIND, Integer.MAX_VALUE, Integer.MIN_VALUE};
        for (int n = 1; n <= 24; n++) {
            Due.is("whatever it is", x.tell(any[n % any.length]), n);
        }
        Due.is("no finding", x.found(1) + x.found(4) + x.found(5), 0);
        for (int v : any) {
            Twins.refused("the 25th", Stations::full, y -> y.tell(v), Due.FULL);
        }
        TinStation z = Stations.full();
        z.check(0, 0);
        Due.is("the first again", z.tell(0), 1);
        TinStation old = Stations.old();
        Due.is("at any TICK", old.tell(0), 3);
    }

    private static TinStation breathing(int numbers, int wrong) {
        TinStation x = Due.withModules(2);
        x.person(1);
        x.gas(1, 0, 1000);
        for (int i = 0; i < numbers; i++) {
            x.tell(996 - 4 * i + (i == wrong ? 1 : 0));
        }
        return x;
    }

    private static void check() {
        Doc.promise(45, "The numbers that wait (none do then) are what a GAS (4: HEAT) of a "
                + "MODULE will be behind 1, 2, .. more TICKS: 0 if they are; 1 and i for the "
                + "first (from 0 on) that isn't.");
        Due.is("none wait", breathing(0, -1).check(1, 0), 0);
        Due.is("one that is", breathing(1, -1).check(1, 0), 0);
        Due.is("one that isn't", breathing(1, 0).check(1, 0), 1);
        Due.is("24 that are", breathing(24, -1).check(1, 0), 0);
        for (int i = 0; i < 24; i++) {
            TinStation x = breathing(24, i);
            Due.is("the first that isn't is " + i, x.check(1, 0), 1 + i);
            Due.is("none wait then", x.count(8), 0);
            Twins.alike("behind check()", x, breathing(0, -1));
        }
        Due.is("of another MODULE", breathing(24, -1).check(0, 0), 1);
        for (int g = 1; g < 5; g++) {
            TinStation x = Due.withModules(6);
            x.gas(5, g, 100000);
            x.tell(100000);
            x.tell(100000);
            x.tell(99999);
            Due.is("GAS " + g, x.check(5, g), 3);
        }
        TinStation heat = Due.withModules(1);
        heat.person(0);
        heat.tell(10);
        heat.tell(20);
        Due.is("HEAT", heat.check(0, 4), 0);
        TinStation old = Stations.home();
        Due.is("numbers of home", old.check(0, 0), 1);
        Due.is("none any more", old.check(0, 0), 0);
    }

    private static TinStation homeWithout() {
        TinStation x = Stations.home();
        x.check(0, 0);
        return x;
    }

    private static void checkBeyond() {
        Doc.promise(45, "BEYOND: there is no such MODULE, GAS (they are gone, too).");
        for (int w : Twins.far(-1, 3)) {
            gone("check(w, 0)", w, 0);
        }
        for (int w : Twins.far(-1, 5)) {
            gone("check(0, w)", 0, w);
            gone("check(2, w)", 2, w);
        }
        Twins.refused("when none wait", () -> homeWithout(), x -> x.check(3, 0), Due.BEYOND);
        Twins.refused("no MODULES", Stations::empty, x -> x.check(0, 0), Due.BEYOND);
        TinStation full = Stations.full();
        Due.is("24 wait", full.check(6, 0), Due.BEYOND);
        Due.is("they are gone", full.tell(0), 1);
    }

    private static void gone(String call, int module, int gas) {
        TinStation x = Stations.home();
        Due.is(call, x.check(module, gas), Due.BEYOND);
        Due.is("found(1) behind " + call, x.found(1), 1);
        Due.is("they are gone behind " + call, x.count(8), 0);
        Twins.alike("behind " + call, x, homeWithout());
    }

    private static void count() {
        Doc.promise(46, "0 MODULES, 1 HATCHES, 2 PEOPLE, 3 MACHINES, 4 the TICK, 5 LINES, 6 "
                + "READINGS, 7 CALIBRATIONS, 8 numbers that wait, 9 who REPAIRS.");
        int[] none = {0, 0, 0, 0, 0, 0, 0, 0, 0, 0};
        int[] home = {3, 3, 3, 4, 3, 5, 3, 2, 2, 1};
        int[] full = {6, 8, 6, 10, 0, 40, 40, 20, 24, 0};
        for (int what = 0; what < 10; what++) {
            Due.is("a new one: " + what, Stations.empty().count(what), none[what]);
            Due.is("home: " + what, Stations.home().count(what), home[what]);
            Due.is("full: " + what, Stations.full().count(what), full[what]);
        }
        TinStation all = Due.withModules(1);
        all.spares(0, 20);
        for (int p = 0; p < 6; p++) {
            all.person(0);
            all.machine(0, 0, 0, 1);
        }
        all.ticks(1);
        for (int p = 0; p < 6; p++) {
            all.repair(p, p, 1 + p);
            Due.is("REPAIRS, too", all.count(9), p + 1);
        }
        for (int p = 5; p >= 0; p--) {
            all.ticks(1);
            Due.is("one is free", all.count(9), p);
        }
        Due.is("the last TICK", Stations.old().count(4), 3000);
    }

    private static void countBeyond() {
        Doc.promise(46, "BEYOND: another what.");
        for (int w : Twins.far(-1, 10)) {
            Twins.refused("count(w)", Stations::home, x -> x.count(w), Due.BEYOND);
        }
    }

    private static void found() {
        Doc.promise(47, "How many acts have answered a finding LOW - k (k 1 .. 5);");
        TinStation x = Stations.full();
        for (int k = 1; k <= 5; k++) {
            Due.is("none yet", x.found(k), 0);
        }
        for (int n = 1; n <= 3; n++) {
            x.person(6);
            x.broke(0);
            x.abort();
            x.module();
            x.as(0, 1);
            for (int k = 1; k <= 5; k++) {
                Due.is("found(" + k + ")", x.found(k), n);
            }
        }
        x.mass(1, -1);
        x.mass(1, Due.LOW);
        x.tell(Due.BEYOND);
        Due.is("a number below 0 is no finding", x.found(1), 3);
        Due.is("the 25th number is", x.found(4), 4);
        TinStation y = Due.withModules(1);
        y.line(2, 9, 0, 0);
        y.begin();
        y.ahead(1);
        y.ticks(1);
        Due.is("a LINE that can't be done is no act", y.found(1), 0);
        TinStation z = new TinStation();
        for (int n = 0; n < 500; n++) {
            z.ticks(0);
        }
        Due.is("500", z.found(1), 500);
    }

    private static void foundBeyond() {
        Doc.promise(47, "BEYOND: another k (counted, too).");
        for (int w : Twins.far(-1, 0, 6, Due.LOW, Due.LOW - 1)) {
            Twins.refused("found(w)", Stations::home, x -> x.found(w), Due.BEYOND);
        }
        TinStation x = new TinStation();
        x.found(0);
        x.found(6);
        Due.is("both are counted", x.found(1), 2);
        Due.is("what is asked isn't", x.found(1), 2);
    }
}
