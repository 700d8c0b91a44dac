/** Promises 9 to 12. */
public final class PeopleTest {
    public static void main(String[] args) {
        people();
        go();
        doing();
        about();
        breathing();
        drinking();
        Due.end();
    }

    private static void people() {
        TinStation x = new TinStation();
        Due.is("person(0) without", x.person(0), Due.BEYOND);
        x.module();
        x.module();
        for (int p = 0; p < 6; p++) {
            Due.is("person()", x.person(p % 2), p);
            int[] due = {p % 2, 0, -1, 0, 0, 0};
            for (int what = 0; what < 6; what++) {
                Due.is("about at first", x.about(p, what), due[what]);
            }
        }
        Due.is("person(2)", x.person(2), Due.BEYOND);
        Due.is("person(-1)", x.person(-1), Due.BEYOND);
        Due.is("person(0) 7th", x.person(0), Due.FULL);
        Due.is("count(2)", x.count(2), 6);
        Due.is("found(1)", x.found(1), 3);
        Due.is("found(4)", x.found(4), 1);
    }

    private static void go() {
        TinStation x = Due.withModules(3);
        x.hatch(0, 1);
        x.hatch(1, 0);
        x.hatch(2, 1);
        x.person(0);
        Due.is("go(0, 2) too far", x.go(0, 2), Due.STATE);
        Due.is("go(0, 0) is there", x.go(0, 0), Due.STATE);
        Due.is("go(1, 1)", x.go(1, 1), Due.BEYOND);
        Due.is("go(-1, 1)", x.go(-1, 1), Due.BEYOND);
        Due.is("go(0, 3)", x.go(0, 3), Due.BEYOND);
        Due.is("go(0, -1)", x.go(0, -1), Due.BEYOND);
        x.shut(0, 0);
        Due.is("go(0, 1) by the other hatch", x.go(0, 1), 1);
        Due.is("about(0, 0)", x.about(0, 0), 1);
        Due.is("go(0, 2) from its other end", x.go(0, 2), 1);
        Due.is("go(0, 1)", x.go(0, 1), 1);
        x.shut(1, 0);
        Due.is("go(0, 0) all closed", x.go(0, 0), Due.STATE);
        Due.is("about(0, 0)", x.about(0, 0), 1);
        Due.is("found(1)", x.found(1), 4);
        Due.is("found(3)", x.found(3), 3);
    }

    private static void doing() {
        TinStation x = Due.withModules(1);
        x.person(0);
        Due.is("doing(0, 2)", x.doing(0, 2), 0);
        Due.is("doing(0, 1)", x.doing(0, 1), 2);
        Due.is("doing(0, 3)", x.doing(0, 3), Due.BEYOND);
        Due.is("doing(0, -1)", x.doing(0, -1), Due.BEYOND);
        Due.is("doing(1, 0)", x.doing(1, 0), Due.BEYOND);
        Due.is("doing(-1, 0)", x.doing(-1, 0), Due.BEYOND);
        Due.is("doing(0, 0)", x.doing(0, 0), 1);
        Due.is("about(0, 1)", x.about(0, 1), 0);
        Due.is("found(1)", x.found(1), 4);
    }

    private static void about() {
        TinStation x = Due.withModules(1);
        Due.is("about(0, 0) without", x.about(0, 0), Due.BEYOND);
        x.person(0);
        x.machine(2, 0, 0, 1);
        x.machine(3, 0, 0, 1);
        x.spares(3, 2);
        x.ticks(1);
        Due.is("repair(0, 1, 3)", x.repair(0, 1, 3), 1);
        int[] due = {0, 1, 1, 3, 1, 1};
        for (int what = 0; what < 6; what++) {
            Due.is("about(0, " + what + ")", x.about(0, what), due[what]);
        }
        Due.is("about(0, 6)", x.about(0, 6), Due.BEYOND);
        Due.is("about(0, -1)", x.about(0, -1), Due.BEYOND);
        Due.is("about(1, 0)", x.about(1, 0), Due.BEYOND);
        Due.is("about(-1, 0)", x.about(-1, 0), Due.BEYOND);
        Due.is("found(1)", x.found(1), 5);
    }

    private static void breathing() {
        int[] breath = {4, 6, 14};
        int[] warmth = {10, 15, 40};
        for (int d = 0; d < 3; d++) {
            TinStation x = Due.withModules(1);
            x.person(0);
            x.doing(0, d);
            x.gas(0, 0, 2 * breath[d] - 1);
            x.ticks(1);
            Due.is("OXYGEN breathed", x.gas(0, 0, -1), breath[d] - 1);
            Due.is("CARBON breathed", x.gas(0, 1, -1), breath[d]);
            Due.is("HEAT", x.gas(0, 4, -1), warmth[d]);
            Due.is("not SHORT", x.about(0, 4), 0);
            x.ticks(1);
            Due.is("no OXYGEN left", x.gas(0, 0, -1), 0);
            Due.is("CARBON then", x.gas(0, 1, -1), 2 * breath[d] - 1);
            Due.is("SHORT", x.about(0, 4), 1);
            x.ticks(3);
            Due.is("SHORT with none", x.about(0, 4), 4);
            Due.is("HEAT then", x.gas(0, 4, -1), 5 * warmth[d]);
        }
    }

    private static void drinking() {
        TinStation x = Due.withModules(2);
        x.person(1);
        x.person(0);
        x.tank(0, 29);
        x.ticks(1);
        Due.is("WATER", x.tank(0, -1), 9);
        Due.is("WASTE", x.tank(1, -1), 12);
        Due.is("VAPOUR there", x.gas(1, 2, -1), 4);
        Due.is("VAPOUR here", x.gas(0, 2, -1), 4);
        x.ticks(1);
        Due.is("WATER then", x.tank(0, -1), 0);
        Due.is("the first drinks 9", x.gas(1, 2, -1), 4 + 3);
        Due.is("the second none", x.gas(0, 2, -1), 4);
        Due.is("WASTE then", x.tank(1, -1), 12 + 6);
        Due.is("DRY", x.about(0, 5), 1);
        Due.is("DRY, too", x.about(1, 5), 1);
        x.tank(0, 10);
        x.ticks(1);
        Due.is("not DRY", x.about(0, 5), 1);
        Due.is("DRY again", x.about(1, 5), 2);
    }
}
