/** Stations that many tests start from. Each call makes a new one, always the same. */
final class Stations {
    private Stations() {
    }

    static TinStation empty() {
        return new TinStation();
    }

    /** Something of everything: 0 runs, 1 repairs MACHINE 1, 2 sleeps, and a WAIT stands. */
    static TinStation home() {
        TinStation x = Due.withModules(3);
        x.hatch(0, 1);
        x.hatch(1, 2);
        x.hatch(0, 2);
        x.shut(2, 0);
        for (int m = 0; m < 3; m++) {
            int[] gas = {900 - 100 * m, 120 - 30 * m, 40 + m, 3000 + 5 * m, 800 - 200 * m};
            for (int g = 0; g < 5; g++) {
                x.gas(m, g, gas[g]);
            }
            x.person(m);
        }
        x.leak(2, 7);
        int[] tank = {500, 90, 5, 8, 11, 13};
        for (int t = 0; t < 6; t++) {
            x.tank(t, tank[t]);
            x.spares(t, t == 4 ? 0 : 2);
        }
        x.doing(0, 2);
        x.machine(1, 0, Due.use(20, 10, 5), 100);
        x.machine(2, 1, Due.use(30, 20, 7), 1);
        x.machine(3, 0, Due.use(10, 5, 3), 100);
        x.machine(4, 1, Due.use(8, 3, 9), 1);
        x.turn(2, 0);
        x.sun(40, 300);
        x.battery(100);
        x.bounds(150, 400, 6000);
        x.mass(0, 5000);
        x.mass(1, -20);
        goOn(x);
        return x;
    }

    private static void goOn(TinStation x) {
        x.line(8, 3, 0, 0);
        x.line(6, 20, 0, 0);
        x.line(3, 0, 0, 0);
        x.line(4, 2, 0, 0);
        x.line(0, 0, 0, 0);
        x.begin();
        x.ticks(1);
        x.repair(1, 1, 30);
        x.read(0, 100);
        x.calibrate(0, 5);
        x.ticks(2);
        x.read(1, -50);
        x.calibrate(0, 9);
        x.delay(3);
        x.read(0, 120);
        x.hunt();
        x.test(5, 1);
        x.tell(7);
        x.tell(8);
    }

    /** As many of all as there may be; nobody repairs, and THE TEXT doesn't run. */
    static TinStation full() {
        TinStation x = Due.withModules(6);
        for (int h = 0; h < 8; h++) {
            x.hatch(h % 6, (h + 1) % 6);
        }
        for (int m = 0; m < 6; m++) {
            x.person(m);
            x.gas(m, 0, 1000 + m);
        }
        for (int i = 0; i < 10; i++) {
            x.machine(i % 6, i % 6, Due.use(i, i, i), 50 + i);
        }
        for (int n = 0; n < 40; n++) {
            x.line(n == 39 ? 0 : 9, n + 1, 0, 0);
            x.read(n % 4, n);
        }
        for (int n = 0; n < 20; n++) {
            x.calibrate(n % 4, n);
        }
        for (int n = 0; n < 24; n++) {
            x.tell(n);
        }
        x.hunt();
        return x;
    }

    /** At the last TICK. */
    static TinStation old() {
        TinStation x = home();
        Due.pass(x, 3000 - x.count(4));
        return x;
    }
}
