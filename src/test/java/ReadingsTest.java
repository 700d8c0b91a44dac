/** Promises 36 to 40. */
public final class ReadingsTest {
    public static void main(String[] args) {
        read();
        calibrate();
        worked();
        workedBelow();
        workedOfSeveral();
        delay();
        known();
        knownOutOfOrder();
        Due.end();
    }

    private static void read() {
        TinStation x = new TinStation();
        Due.is("sensor 4", x.read(4, 0), Due.BEYOND);
        Due.is("sensor -1", x.read(-1, 0), Due.BEYOND);
        Due.is("value 10001", x.read(0, 10001), Due.BEYOND);
        Due.is("value -10001", x.read(0, -10001), Due.BEYOND);
        Due.is("value 10000", x.read(0, 10000), 0);
        Due.is("value -10000", x.read(3, -10000), 1);
        Due.is("worked(0)", x.worked(0), 10000);
        Due.is("worked(1)", x.worked(1), -10000);
        for (int r = 2; r < 40; r++) {
            Due.is("read()", x.read(r % 4, r), r);
        }
        Due.is("read() 41st", x.read(0, 0), Due.FULL);
        Due.is("read() 41st, wrong", x.read(4, 0), Due.BEYOND);
        Due.is("count(6)", x.count(6), 40);
        Due.is("worked(39)", x.worked(39), 39);
        Due.is("found(1)", x.found(1), 5);
        Due.is("found(4)", x.found(4), 1);
    }

    private static void calibrate() {
        TinStation x = new TinStation();
        Due.is("sensor 4", x.calibrate(4, 0), Due.BEYOND);
        Due.is("sensor -1", x.calibrate(-1, 0), Due.BEYOND);
        Due.is("over 1001", x.calibrate(0, 1001), Due.BEYOND);
        Due.is("over -1001", x.calibrate(0, -1001), Due.BEYOND);
        x.read(0, 0);
        x.read(1, 0);
        Due.is("over 1000", x.calibrate(0, 1000), 1);
        Due.is("over -1000", x.calibrate(1, -1000), 2);
        Due.is("worked(0)", x.worked(0), -1000);
        Due.is("worked(1)", x.worked(1), 1000);
        for (int n = 3; n <= 20; n++) {
            Due.is("calibrate()", x.calibrate(n % 4, 0), n);
        }
        Due.is("calibrate() 21st", x.calibrate(0, 0), Due.FULL);
        Due.is("calibrate() 21st, wrong", x.calibrate(4, 0), Due.BEYOND);
        Due.is("count(7)", x.count(7), 20);
        Due.is("found(1)", x.found(1), 5);
        Due.is("found(4)", x.found(4), 1);
    }

    private static void worked() {
        TinStation x = new TinStation();
        Due.is("worked(0) without", x.worked(0), Due.BEYOND);
        x.read(2, 500);
        Due.is("worked(-1)", x.worked(-1), Due.BEYOND);
        Due.is("worked(1)", x.worked(1), Due.BEYOND);
        Due.is("without any", x.worked(0), 500);
        x.calibrate(1, 99);
        Due.is("without any of it", x.worked(0), 500);
        x.ticks(3);
        x.calibrate(2, 10);
        Due.is("ahead of the first", x.worked(0), 490);
        x.read(2, 500);
        for (int t = 1; t <= 7; t++) {
            x.ticks(1);
            x.read(2, 500);
        }
        Due.is("behind the last", x.worked(8), 490);
        x.calibrate(2, 20);
        int[] over = {10, 11, 12, 14, 15, 17, 18, 20};
        for (int i = 0; i < over.length; i++) {
            Due.is("between", x.worked(1 + i), 500 - over[i]);
        }
        x.ticks(5);
        x.calibrate(2, 900);
        for (int i = 0; i < over.length; i++) {
            Due.is("between the nearest", x.worked(1 + i), 500 - over[i]);
        }
        Due.is("ahead of the first", x.worked(0), 490);
        Due.is("found(1)", x.found(1), 3);
    }

    private static void workedBelow() {
        TinStation x = new TinStation();
        x.calibrate(0, 5);
        x.ticks(1);
        x.read(0, 0);
        x.ticks(1);
        x.read(0, 0);
        x.ticks(1);
        x.calibrate(0, -5);
        Due.is("5 less 10 / 3, cut", x.worked(0), -(5 - 3));
        Due.is("5 less 20 / 3, cut", x.worked(1), -(5 - 6));
        TinStation y = new TinStation();
        y.calibrate(3, 1000);
        Due.pass(y, 2999);
        y.read(3, 10000);
        y.ticks(1);
        y.calibrate(3, -1000);
        Due.is("over the longest time", y.worked(0), 10000 - (1000 - 2000 * 2999 / 3000));
    }

    private static void workedOfSeveral() {
        TinStation x = new TinStation();
        x.calibrate(0, 1);
        x.calibrate(0, 2);
        x.read(0, 100);
        x.calibrate(0, 4);
        Due.is("the last of one TICK, though told later", x.worked(0), 96);
        x.ticks(2);
        x.read(0, 100);
        x.ticks(2);
        x.calibrate(0, 50);
        x.calibrate(1, 77);
        x.calibrate(0, 14);
        Due.is("the last of the later TICK", x.worked(1), 91);
        x.ticks(1);
        x.calibrate(0, 999);
        Due.is("a yet later one doesn't matter", x.worked(1), 91);
        TinStation z = new TinStation();
        z.read(0, 100);
        z.ticks(1);
        z.calibrate(0, 30);
        Due.is("ahead of the only one", z.worked(0), 70);
        z.ticks(1);
        z.read(0, 100);
        z.ticks(1);
        z.calibrate(0, 40);
        Due.is("just between", z.worked(1), 65);
        TinStation y = new TinStation();
        y.read(0, 100);
        y.ticks(1);
        y.calibrate(0, 30);
        y.calibrate(0, 40);
        y.ticks(1);
        y.calibrate(0, 50);
        Due.is("ahead of the first: the last of its TICK", y.worked(0), 60);
    }

    private static void delay() {
        TinStation x = new TinStation();
        Due.is("delay(100)", x.delay(100), 5);
        Due.is("delay(101)", x.delay(101), Due.BEYOND);
        Due.is("delay(-1)", x.delay(-1), Due.BEYOND);
        x.read(0, 1);
        Due.is("delay(0)", x.delay(0), 100);
        x.read(1, 1);
        Due.is("delay(3)", x.delay(3), 0);
        Due.is("heard later", x.known(0, 99), Due.NONE);
        Due.is("as it was when it was read", x.known(0, 100), 0);
        Due.is("heard at once", x.known(1, 0), 1);
        Due.is("found(1)", x.found(1), 2);
    }

    private static void known() {
        TinStation x = new TinStation();
        Due.is("sensor 4", x.known(4, 0), Due.BEYOND);
        Due.is("sensor -1", x.known(-1, 0), Due.BEYOND);
        Due.is("tick 4001", x.known(0, 4001), Due.BEYOND);
        Due.is("tick -1", x.known(0, -1), Due.BEYOND);
        Due.is("tick 4000", x.known(0, 4000), Due.NONE);
        Due.is("tick 0", x.known(0, 0), Due.NONE);
        x.read(0, 9);
        x.read(1, 9);
        x.read(0, 9);
        x.ticks(2);
        x.read(0, 9);
        Due.is("not yet", x.known(0, 4), Due.NONE);
        Due.is("of several the last", x.known(0, 5), 2);
        Due.is("not the next yet", x.known(0, 6), 2);
        Due.is("the next", x.known(0, 7), 3);
        Due.is("of another SENSOR", x.known(1, 4000), 1);
        Due.is("of none", x.known(2, 4000), Due.NONE);
        Due.is("found(1)", x.found(1), 4);
        Due.is("found(2)", x.found(2), 4);
    }

    private static void knownOutOfOrder() {
        TinStation x = new TinStation();
        x.delay(100);
        x.read(0, 1);
        x.ticks(1);
        x.delay(0);
        x.read(0, 2);
        Due.is("the later one is heard first", x.known(0, 1), 1);
        Due.is("the earlier one comes late", x.known(0, 100), 1);
        TinStation y = new TinStation();
        Due.pass(y, 3000);
        y.delay(100);
        y.read(3, 1);
        Due.is("not yet", y.known(3, 3099), Due.NONE);
        Due.is("the latest of all", y.known(3, 3100), 0);
    }
}
