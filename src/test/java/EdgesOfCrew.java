/** Boundary cases of people; promises 9 to 12. */
final class EdgesOfCrew {
    private static final int[] BREATH = {4, 6, 14};
    private static final int[] WARMTH = {10, 15, 40};

    private EdgesOfCrew() {
    }

    static void run() {
        atMostSixPeople();
        breathe();
        drink();
        warm();
        person();
        personBeyond();
        personFull();
        go();
        goBeyond();
        goState();
        doing();
        doingState();
        about();
        aboutBeyond();
    }

    private static void atMostSixPeople() {
        Doc.terms("PEOPLE 0, 1, .. (at most 6) are each in a MODULE, DOING 0 sleep (at first), "
                + "1 work, 2 run.");
        TinStation x = Due.withModules(6);
        for (int p = 0; p < 6; p++) {
            Due.is("not there yet", x.about(p, 0), Due.BEYOND);
            Due.is("person()", x.person(5 - p), p);
            Due.is("in its MODULE", x.about(p, 0), 5 - p);
            Due.is("asleep at first", x.about(p, 1), 0);
        }
        Due.is("the seventh", x.person(0), Due.FULL);
        Due.is("work", x.doing(5, 1), 0);
        Due.is("run", x.doing(5, 2), 1);
        Due.is("nothing beyond it", x.doing(5, 3), Due.BEYOND);
        Due.is("sleep", x.doing(5, 0), 2);
    }

    private static TinStation one(int doing, int oxygen, int water) {
        TinStation x = Due.withModules(1);
        x.person(0);
        x.doing(0, doing);
        x.gas(0, 0, oxygen);
        x.tank(0, water);
        x.ticks(1);
        return x;
    }

    private static void breathe() {
        Doc.terms("(5) PEOPLE breathe, by numbers: OXYGEN of their MODULE, 4, 6, or 14 by DOING "
                + "(less, if there is less: SHORT is one more), becomes as much CARBON;");
        for (int d = 0; d < 3; d++) {
            for (int had : new int[] {0, 1, BREATH[d] - 1, BREATH[d], BREATH[d] + 1, 100000}) {
                int taken = Math.min(had, BREATH[d]);
                TinStation x = one(d, had, 0);
                Due.is("OXYGEN of " + had, x.gas(0, 0, -1), had - taken);
                Due.is("CARBON of " + had, x.gas(0, 1, -1), taken);
                Due.is("SHORT of " + had, x.about(0, 4), had < BREATH[d] ? 1 : 0);
            }
        }
        TinStation y = Due.withModules(2);
        y.person(0);
        y.person(0);
        y.person(1);
        y.gas(0, 0, 7);
        y.gas(1, 0, 4);
        y.ticks(1);
        Due.is("the first has enough", y.about(0, 4), 0);
        Due.is("the second is SHORT", y.about(1, 4), 1);
        Due.is("elsewhere there is enough", y.about(2, 4), 0);
        Due.is("7 became CARBON", y.gas(0, 1, -1), 7);
        y.ticks(100);
        Due.is("SHORT each TICK", y.about(1, 4), 101);
    }

    private static void drink() {
        Doc.terms("they drink WATER, 10 (less, if there is less: DRY is one more): 4 tenths of "
                + "it come as VAPOUR to the MODULE, the rest to WASTE;");
        int[] vapour = {0, 0, 0, 1, 1, 2, 2, 2, 3, 3, 4, 4, 4};
        for (int had = 0; had <= 12; had++) {
            TinStation x = one(0, 0, had);
            int drunk = Math.min(had, 10);
            Due.is("WATER of " + had, x.tank(0, -1), had - drunk);
            Due.is("VAPOUR of " + had, x.gas(0, 2, -1), vapour[had]);
            Due.is("WASTE of " + had, x.tank(1, -1), drunk - vapour[had]);
            Due.is("DRY of " + had, x.about(0, 5), had < 10 ? 1 : 0);
        }
        TinStation y = Due.withModules(6);
        for (int m = 0; m < 6; m++) {
            y.person(5 - m);
        }
        y.tank(0, 59);
        y.ticks(1);
        for (int p = 0; p < 6; p++) {
            Due.is("the last has 9", y.about(p, 5), p == 5 ? 1 : 0);
            Due.is("VAPOUR where they are", y.gas(5 - p, 2, -1), p == 5 ? 3 : 4);
        }
        Due.is("none is left", y.tank(0, -1), 0);
        Due.is("WASTE", y.tank(1, -1), 5 * 6 + 6);
    }

    private static void warm() {
        Doc.terms("HEAT of the MODULE is 10, 15, or 40 more.");
        for (int d = 0; d < 3; d++) {
            TinStation x = one(d, 0, 0);
            Due.is("HEAT, even with nothing to breathe", x.gas(0, 4, -1), WARMTH[d]);
            x.gas(0, 4, 100000);
            x.ticks(1);
            Due.is("HEAT above what may be set", x.gas(0, 4, -1), 100000 + WARMTH[d]);
        }
        TinStation y = Due.withModules(2);
        y.person(1);
        y.person(1);
        y.ticks(1);
        Due.is("of both", y.gas(1, 4, -1), 20);
        Due.is("none where nobody is", y.gas(0, 4, -1), 0);
    }

    private static void person() {
        Doc.promise(9, "One comes into a MODULE: the number.");
        TinStation x = Due.withModules(6);
        Due.is("into the first", x.person(0), 0);
        Due.is("into the last", x.person(5), 1);
        Due.is("where there is somebody", x.person(5), 2);
        Due.is("is there", x.about(2, 0), 5);
    }

    private static void personBeyond() {
        Doc.promise(9, "BEYOND.");
        for (int w : Twins.far(-1, 3)) {
            Twins.refused("person(w)", Stations::home, x -> x.person(w), Due.BEYOND);
        }
        Twins.refused("without MODULES", Stations::empty, x -> x.person(0), Due.BEYOND);
    }

    private static void personFull() {
        Doc.promise(9, "FULL.");
        TinStation x = Due.withModules(1);
        for (int p = 0; p < 5; p++) {
            x.person(0);
        }
        Due.is("the sixth", x.person(0), 5);
        Twins.refused("the seventh", Stations::full, y -> y.person(5), Due.FULL);
        Twins.refused("the seventh, nowhere", Stations::full, y -> y.person(6), Due.BEYOND);
    }

    private static void go() {
        Doc.promise(10, "One goes to another MODULE over one open HATCH: 1.");
        TinStation x = Due.withModules(6);
        for (int m = 0; m < 5; m++) {
            x.hatch(m + m % 2, m + 1 - m % 2);
        }
        x.person(0);
        for (int m = 1; m < 6; m++) {
            Due.is("one on", x.go(0, m), 1);
            Due.is("is there", x.about(0, 0), m);
        }
        Due.is("one back", x.go(0, 4), 1);
        Due.is("two back is too far", x.go(0, 2), Due.STATE);
        Due.is("TICK doesn't go by", x.count(4), 0);
        x.ticks(1);
        Due.is("HEAT comes where one is then, less a quarter", x.gas(4, 4, -1), 10 - 2 - 2);
    }

    private static void goBeyond() {
        Doc.promise(10, "BEYOND.");
        for (int w : Twins.far(-1, 3)) {
            Twins.refused("go(w, 1)", Stations::home, x -> x.go(w, 1), Due.BEYOND);
            Twins.refused("go(0, w)", Stations::home, x -> x.go(0, w), Due.BEYOND);
            Twins.refused("go(w, w)", Stations::home, x -> x.go(w, w), Due.BEYOND);
            Twins.refused("go of who REPAIRS", Stations::home, x -> x.go(1, w), Due.BEYOND);
        }
        Twins.refused("the seventh", Stations::full, x -> x.go(6, 0), Due.BEYOND);
        Twins.refused("to the seventh", Stations::full, x -> x.go(5, 6), Due.BEYOND);
        Twins.refused("nobody there", () -> Due.withModules(2), x -> x.go(0, 1), Due.BEYOND);
    }

    private static void goState() {
        Doc.promise(10, "STATE: REPAIRS, is there, or no HATCH between both is open.");
        Twins.refused("REPAIRS", Stations::home, x -> x.go(1, 0), Due.STATE);
        Twins.refused("REPAIRS and is there", Stations::home, x -> x.go(1, 1), Due.STATE);
        Twins.refused("is there", Stations::home, x -> x.go(0, 0), Due.STATE);
        Twins.refused("closed", Stations::home, x -> x.go(0, 2), Due.STATE);
        Twins.refused("closed, the other way", Stations::home, x -> x.go(2, 0), Due.STATE);
        Twins.refused("no HATCH at all", Stations::full, x -> x.go(0, 3), Due.STATE);
        TinStation x = Stations.home();
        x.shut(2, 1);
        Due.is("open now", x.go(0, 2), 1);
        TinStation y = Due.withModules(2);
        y.hatch(0, 1);
        y.hatch(1, 0);
        y.person(0);
        y.shut(0, 0);
        Due.is("one of two is open", y.go(0, 1), 1);
        y.shut(1, 0);
        Due.is("none of two is", y.go(0, 0), Due.STATE);
        y.shut(0, 1);
        Due.is("the other one is", y.go(0, 0), 1);
    }

    private static void doing() {
        Doc.promise(11, "DOING: what it was. BEYOND.");
        TinStation x = Stations.full();
        Due.is("of the first", x.doing(0, 2), 0);
        Due.is("of the last", x.doing(5, 1), 0);
        Due.is("the same again", x.doing(5, 1), 1);
        Due.is("the first yet", x.doing(0, 0), 2);
        for (int w : Twins.far(-1, 3)) {
            Twins.refused("doing(0, w)", Stations::home, y -> y.doing(0, w), Due.BEYOND);
            Twins.refused("doing(w, 0)", Stations::home, y -> y.doing(w, 0), Due.BEYOND);
            Twins.refused("of who REPAIRS", Stations::home, y -> y.doing(1, w), Due.BEYOND);
        }
        Twins.refused("the seventh", Stations::full, y -> y.doing(6, 0), Due.BEYOND);
        Twins.refused("nobody", Stations::empty, y -> y.doing(0, 0), Due.BEYOND);
    }

    private static void doingState() {
        Doc.promise(11, "STATE: REPAIRS.");
        for (int d = 0; d < 3; d++) {
            int what = d;
            Twins.refused("doing(1, " + d + ")", Stations::home, x -> x.doing(1, what), Due.STATE);
        }
        TinStation x = Stations.home();
        x.ticks(27);
        Due.is("one TICK yet", x.about(1, 3), 1);
        Due.is("not yet", x.doing(1, 2), Due.STATE);
        x.ticks(1);
        Due.is("free again", x.doing(1, 2), 1);
    }

    private static void about() {
        Doc.promise(12, "Of a PERSON: 0 MODULE, 1 DOING, 2 the MACHINE that is REPAIRED (-1), 3 "
                + "how many TICKS yet, 4 SHORT, 5 DRY.");
        TinStation x = Stations.home();
        int[][] due = {{0, 2, -1, 0, 0, 0}, {1, 1, 1, 28, 0, 0}, {2, 0, -1, 0, 0, 0}};
        for (int p = 0; p < 3; p++) {
            for (int what = 0; what < 6; what++) {
                Due.is("about(" + p + ", " + what + ")", x.about(p, what), due[p][what]);
            }
        }
        TinStation y = Due.withModules(1);
        y.person(0);
        y.machine(0, 0, 0, 1);
        y.spares(0, 1);
        y.ticks(1);
        y.repair(0, 0, 60);
        Due.is("MACHINE 0", y.about(0, 2), 0);
        Due.is("the most TICKS", y.about(0, 3), 60);
        y.ticks(59);
        Due.is("one TICK yet", y.about(0, 3), 1);
        Due.is("MACHINE 0 yet", y.about(0, 2), 0);
        y.ticks(1);
        Due.is("none", y.about(0, 3), 0);
        Due.is("no MACHINE", y.about(0, 2), -1);
        Due.is("SHORT in each", y.about(0, 4), 61);
        Due.is("DRY in each", y.about(0, 5), 61);
    }

    private static void aboutBeyond() {
        Doc.promise(12, "BEYOND.");
        for (int w : Twins.far(-1, 6)) {
            Twins.refused("about(0, w)", Stations::home, x -> x.about(0, w), Due.BEYOND);
        }
        for (int w : Twins.far(-1, 3)) {
            Twins.refused("about(w, 0)", Stations::home, x -> x.about(w, 0), Due.BEYOND);
            Twins.refused("about(w, 5)", Stations::home, x -> x.about(w, 5), Due.BEYOND);
        }
        Twins.refused("the seventh", Stations::full, x -> x.about(6, 0), Due.BEYOND);
        Twins.refused("nobody", Stations::empty, x -> x.about(0, 0), Due.BEYOND);
    }
}
