/** Promises 44 to 47. */
public final class ToldTest {
    public static void main(String[] args) {
        tell();
        check();
        checkOfEachGas();
        checkFindings();
        checkChangesNothing();
        count();
        found();
        Due.end();
    }

    private static void tell() {
        TinStation x = new TinStation();
        for (int n = 1; n <= 24; n++) {
            Due.is("tell()", x.tell(n % 2 == 0 ? Integer.MIN_VALUE : Due.LOW - 1), n);
        }
        Due.is("tell() 25th", x.tell(0), Due.FULL);
        Due.is("count(8)", x.count(8), 24);
        Due.is("found(4)", x.found(4), 1);
        Due.is("found(1)", x.found(1), 0);
    }

    private static TinStation breathing() {
        TinStation x = Due.withModules(1);
        x.person(0);
        x.gas(0, 0, 1000);
        return x;
    }

    private static void check() {
        TinStation x = breathing();
        Due.is("check() of none", x.check(0, 0), 0);
        for (int i = 1; i <= 24; i++) {
            x.tell(1000 - 4 * i);
        }
        Due.is("check() of 24", x.check(0, 0), 0);
        Due.is("none wait", x.count(8), 0);
        for (int wrong = 0; wrong < 24; wrong++) {
            for (int i = 0; i < 24; i++) {
                x.tell(1000 - 4 * (i + 1) + (i == wrong || i == 23 ? 1 : 0));
            }
            Due.is("check() with one wrong", x.check(0, 0), 1 + wrong);
            Due.is("none wait", x.count(8), 0);
        }
        Due.is("check() of none again", x.check(0, 0), 0);
        Due.is("found(1)", x.found(1), 0);
    }

    private static void checkOfEachGas() {
        TinStation x = Due.withModules(2);
        for (int m = 0; m < 2; m++) {
            for (int g = 0; g < 5; g++) {
                x.gas(m, g, 10 * m + g);
                x.tell(10 * m + g);
                Due.is("check()", x.check(m, g), 0);
                x.tell(10 * m + g);
                x.tell(10 * m + g + 1);
                Due.is("check() wrong", x.check(m, g), 2);
            }
        }
    }

    private static void checkFindings() {
        TinStation x = breathing();
        int[][] wrong = {{1, 0}, {-1, 0}, {0, 5}, {0, -1}};
        for (int[] w : wrong) {
            x.tell(996);
            Due.is("check() of none such", x.check(w[0], w[1]), Due.BEYOND);
            Due.is("they are gone, too", x.count(8), 0);
        }
        Due.is("found(1)", x.found(1), 4);
    }

    private static void checkChangesNothing() {
        TinStation x = breathing();
        x.machine(2, 0, Due.use(9, 0, 0), 2);
        x.tank(0, 500);
        x.line(2, 0, 0, 0);
        x.begin();
        String was = Due.seen(x);
        x.tell(1004);
        x.tell(1008);
        x.tell(1004);
        Due.is("check() with FAULT and TEXT", x.check(0, 0), 0);
        Due.same("behind check()", Due.seen(x), was);
    }

    private static void count() {
        TinStation x = Due.withModules(5);
        x.hatch(0, 1);
        x.hatch(0, 1);
        x.hatch(0, 1);
        x.person(0);
        x.person(0);
        x.machine(0, 0, 0, 1);
        x.machine(0, 0, 0, 9);
        x.machine(0, 0, 0, 9);
        x.machine(0, 0, 0, 9);
        x.ticks(11);
        for (int i = 0; i < 6; i++) {
            x.line(0, 0, 0, 0);
        }
        for (int i = 0; i < 7; i++) {
            x.read(0, 0);
            x.tell(0);
        }
        x.tell(0);
        x.calibrate(0, 0);
        x.calibrate(0, 0);
        x.spares(0, 1);
        x.repair(0, 0, 2);
        int[] due = {5, 3, 2, 4, 11, 6, 7, 2, 8, 1};
        for (int what = 0; what < due.length; what++) {
            Due.is("count(" + what + ")", x.count(what), due[what]);
        }
        Due.is("count(10)", x.count(10), Due.BEYOND);
        Due.is("count(-1)", x.count(-1), Due.BEYOND);
        Due.is("found(1)", x.found(1), 2);
    }

    private static void found() {
        TinStation x = Due.withModules(6);
        x.machine(1, 0, 0, 1);
        x.person(9);
        x.broke(0);
        x.broke(0);
        for (int i = 0; i < 3; i++) {
            x.begin();
        }
        for (int i = 0; i < 4; i++) {
            x.module();
        }
        for (int i = 0; i < 5; i++) {
            x.as(0, 2);
        }
        for (int k = 1; k <= 5; k++) {
            Due.is("found(" + k + ")", x.found(k), k);
        }
        Due.is("found(0)", x.found(0), Due.BEYOND);
        Due.is("found(6)", x.found(6), Due.BEYOND);
        Due.is("found(-1)", x.found(-1), Due.BEYOND);
        Due.is("found(LOW - 1)", x.found(Due.LOW - 1), Due.BEYOND);
        Due.is("counted, too", x.found(1), 5);
        Due.is("asking isn't", x.found(1), 5);
    }
}
