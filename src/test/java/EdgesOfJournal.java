/** Boundary cases of readings, calibrations and the ground; promises 36 to 40. */
final class EdgesOfJournal {
    private EdgesOfJournal() {
    }

    static void run() {
        atMostFortyReadings();
        atMostTwentyCalibrations();
        betweenTwo();
        aheadOfTheFirst();
        severalInOneTick();
        delayed();
        knownAtATick();
        read();
        calibrate();
        worked();
        delay();
        known();
        knownNone();
    }

    private static void atMostFortyReadings() {
        Doc.terms("READINGS, at most 40: a SENSOR (0 .. 3), the TICK (as it is), a value "
                + "(-10000 .. 10000).");
        TinStation x = new TinStation();
        x.delay(0);
        for (int r = 0; r < 40; r++) {
            int value = r % 2 == 0 ? 10000 : -10000;
            Due.is("read()", x.read(r % 4, value), r);
            Due.is("its value", x.worked(r), value);
            Due.is("of its SENSOR, in its TICK", x.known(r % 4, r), r);
            x.ticks(1);
        }
        Due.is("the 41st", x.read(0, 0), Due.FULL);
        TinStation y = new TinStation();
        Due.pass(y, 3000);
        y.delay(0);
        y.read(3, 0);
        Due.is("not ahead of the TICK", y.known(3, 2999), Due.NONE);
        Due.is("in the last TICK", y.known(3, 3000), 0);
    }

    private static void atMostTwentyCalibrations() {
        Doc.terms("CALIBRATIONS, at most 20: of a SENSOR at the TICK: by how much it tells too "
                + "much (-1000 .. 1000).");
        TinStation x = new TinStation();
        x.read(3, 0);
        for (int n = 1; n <= 20; n++) {
            int over = n % 2 == 0 ? 1000 : -1000;
            Due.is("calibrate()", x.calibrate(3, over), n);
            Due.is("by how much", x.worked(0), -over);
        }
        Due.is("the 21st", x.calibrate(3, 0), Due.FULL);
        Due.is("doesn't count", x.worked(0), -1000);
    }

    /** Calibrated at tick 0 and at the last tick of the span; read at each of them. */
    private static TinStation span(int ticks, int first, int last) {
        TinStation x = new TinStation();
        x.calibrate(0, first);
        for (int t = 0; t < ticks; t++) {
            x.read(0, 0);
            x.ticks(1);
        }
        x.read(0, 0);
        x.calibrate(0, last);
        return x;
    }

    private static void betweenTwo() {
        Doc.terms("WORKED BACK: a READING less how much too much: between two CALIBRATIONS (by "
                + "TICKS) that of the earlier one, and the difference times how many TICKS "
                + "behind it, by how many between them;");
        int[] up = {0, 3, 6, 10};
        int[] cut = {0, 0, 1, 2};
        for (int t = 0; t < 4; t++) {
            Due.is("0 to 10", span(3, 0, 10).worked(t), -up[t]);
            Due.is("0 to -10, cut to 0", span(3, 0, -10).worked(t), up[t]);
            Due.is("10 to 0: the difference is cut", span(3, 10, 0).worked(t), -(10 - up[t]));
            Due.is("-10 to 0", span(3, -10, 0).worked(t), 10 - up[t]);
            Due.is("5 to 7", span(3, 5, 7).worked(t), -(5 + cut[t]));
            Due.is("1 to -1", span(3, 1, -1).worked(t), -(1 - cut[t]));
            Due.is("4 to 4", span(3, 4, 4).worked(t), -4);
        }
        Due.is("a span of one: the first", span(1, 1000, -1000).worked(0), -1000);
        Due.is("a span of one: the last", span(1, 1000, -1000).worked(1), 1000);
        TinStation x = new TinStation();
        x.calibrate(1, -1000);
        Due.pass(x, 2999);
        x.read(1, -10000);
        x.ticks(1);
        x.calibrate(1, 1000);
        Due.is("the longest", x.worked(0), -10000 - (-1000 + 2000 * 2999 / 3000));
        TinStation y = span(4, 0, 40);
        y.ticks(1);
        y.calibrate(0, 999);
        Due.is("a third one behind them is no matter", y.worked(2), -20);
        Due.is("nor for one at the second", y.worked(4), -40);
    }

    private static void aheadOfTheFirst() {
        Doc.terms("ahead of the first as that, behind the last as that;");
        TinStation x = new TinStation();
        x.read(0, 100);
        x.ticks(1);
        x.read(0, 100);
        x.calibrate(0, 7);
        x.read(0, 100);
        x.ticks(1);
        x.read(0, 100);
        for (int r = 0; r < 4; r++) {
            Due.is("the only one: first and last", x.worked(r), 93);
        }
        x.ticks(1);
        x.calibrate(0, 17);
        x.ticks(1);
        x.read(0, 100);
        int[] due = {93, 93, 93, 88, 83};
        for (int r = 0; r < 5; r++) {
            Due.is("of two", x.worked(r), due[r]);
        }
    }

    private static void severalInOneTick() {
        Doc.terms("of several in one TICK the last that was told counts; 0 without any.");
        TinStation x = new TinStation();
        x.read(0, 50);
        Due.is("without any", x.worked(0), 50);
        x.calibrate(1, 9);
        Due.is("without any of this SENSOR", x.worked(0), 50);
        x.calibrate(0, 9);
        Due.is("one", x.worked(0), 41);
        x.calibrate(0, -9);
        Due.is("the last of two", x.worked(0), 59);
        x.calibrate(1, 5);
        Due.is("not one of another SENSOR", x.worked(0), 59);
        x.ticks(2);
        x.calibrate(0, 100);
        x.calibrate(0, 11);
        x.ticks(1);
        x.read(0, 50);
        Due.is("the last of the last TICK", x.worked(1), 39);
        TinStation y = new TinStation();
        y.calibrate(0, 500);
        y.calibrate(0, 0);
        y.ticks(1);
        y.read(0, 50);
        y.ticks(1);
        y.calibrate(0, 500);
        y.calibrate(0, 10);
        Due.is("both ends", y.worked(0), 45);
    }

    private static void delayed() {
        Doc.terms("THE GROUND hears of each READING DELAY TICKS later (0 .. 100; 5 at first; as "
                + "it is when it is read).");
        for (int lag : new int[] {0, 1, 5, 100}) {
            TinStation x = new TinStation();
            if (lag != 5) {
                x.delay(lag);
            }
            x.ticks(7);
            x.read(2, 1);
            x.delay(50);
            Due.is("one TICK earlier", x.known(2, 7 + lag - 1), Due.NONE);
            Due.is("just then", x.known(2, 7 + lag), 0);
            Due.is("later, too", x.known(2, 4000), 0);
        }
        TinStation y = new TinStation();
        Due.pass(y, 3000);
        y.delay(100);
        y.read(0, 1);
        Due.is("the latest: not yet", y.known(0, 3099), Due.NONE);
        Due.is("the latest of all", y.known(0, 3100), 0);
    }

    private static void knownAtATick() {
        Doc.terms("KNOWN at a TICK of a SENSOR: the latest READING (by its TICK, of several the "
                + "last) that it had heard by then.");
        TinStation x = new TinStation();
        x.read(0, 1);
        x.read(0, 2);
        x.read(1, 3);
        Due.is("of several the last", x.known(0, 5), 1);
        Due.is("of its SENSOR", x.known(1, 5), 2);
        x.ticks(1);
        x.delay(0);
        x.read(0, 4);
        Due.is("heard earlier, though later", x.known(0, 1), 3);
        Due.is("the latest yet when the others are heard", x.known(0, 5), 3);
        TinStation y = new TinStation();
        y.delay(100);
        y.read(0, 1);
        y.delay(0);
        y.read(0, 2);
        Due.is("of one TICK: the one that is heard", y.known(0, 99), 1);
        Due.is("of one TICK: the last", y.known(0, 100), 1);
        TinStation z = new TinStation();
        z.delay(0);
        z.read(0, 1);
        z.delay(100);
        z.read(0, 2);
        Due.is("the last isn't heard yet", z.known(0, 99), 0);
        Due.is("now it is", z.known(0, 100), 1);
    }

    private static void read() {
        Doc.promise(36, "A READING: its number. BEYOND. FULL.");
        TinStation x = new TinStation();
        Due.is("the first", x.read(0, -10000), 0);
        Due.is("of the last SENSOR", x.read(3, 10000), 1);
        for (int w : Twins.far(-1, 4)) {
            Twins.refused("read(w, 0)", Stations::home, y -> y.read(w, 0), Due.BEYOND);
            Twins.refused("read(w, 0), FULL", Stations::full, y -> y.read(w, 0), Due.BEYOND);
        }
        for (int w : Twins.far(-10001, 10001)) {
            Twins.refused("read(0, w)", Stations::home, y -> y.read(0, w), Due.BEYOND);
            Twins.refused("read(0, w), FULL", Stations::full, y -> y.read(0, w), Due.BEYOND);
        }
        for (int s = 0; s < 4; s++) {
            int one = s;
            Twins.refused("the 41st", Stations::full, y -> y.read(one, 0), Due.FULL);
        }
        for (int r = 2; r < 39; r++) {
            x.read(0, 0);
        }
        Due.is("the 40th", x.read(0, 0), 39);
    }

    private static void calibrate() {
        Doc.promise(37, "A CALIBRATION, now: how many there are. BEYOND. FULL.");
        TinStation x = new TinStation();
        Due.is("the first", x.calibrate(0, -1000), 1);
        Due.is("of the last SENSOR", x.calibrate(3, 1000), 2);
        for (int w : Twins.far(-1, 4)) {
            Twins.refused("calibrate(w, 0)", Stations::home, y -> y.calibrate(w, 0), Due.BEYOND);
            Twins.refused("FULL", Stations::full, y -> y.calibrate(w, 0), Due.BEYOND);
        }
        for (int w : Twins.far(-1001, 1001)) {
            Twins.refused("calibrate(0, w)", Stations::home, y -> y.calibrate(0, w), Due.BEYOND);
            Twins.refused("FULL", Stations::full, y -> y.calibrate(0, w), Due.BEYOND);
        }
        for (int s = 0; s < 4; s++) {
            int one = s;
            Twins.refused("the 21st", Stations::full, y -> y.calibrate(one, 0), Due.FULL);
        }
        for (int n = 3; n < 20; n++) {
            x.calibrate(0, 0);
        }
        Due.is("the 20th", x.calibrate(0, 0), 20);
    }

    private static void worked() {
        Doc.promise(38, "A READING WORKED BACK. BEYOND.");
        TinStation x = new TinStation();
        x.read(0, 10000);
        x.read(1, -10000);
        x.calibrate(0, -1000);
        x.calibrate(1, 1000);
        Due.is("the most", x.worked(0), 11000);
        Due.is("the least", x.worked(1), -11000);
        for (int w : Twins.far(-1, 3)) {
            Twins.refused("worked(w)", Stations::home, y -> y.worked(w), Due.BEYOND);
        }
        Twins.refused("the 41st", Stations::full, y -> y.worked(40), Due.BEYOND);
        Twins.refused("without any", Stations::empty, y -> y.worked(0), Due.BEYOND);
        Due.is("the 40th", Stations.full().worked(39), 39 - 19);
    }

    private static void delay() {
        Doc.promise(39, "DELAY: what it was. BEYOND.");
        TinStation x = new TinStation();
        Due.is("at first", x.delay(100), 5);
        Due.is("the most", x.delay(0), 100);
        Due.is("the least", x.delay(0), 0);
        for (int w : Twins.far(-1, 101)) {
            Twins.refused("delay(w)", Stations::home, y -> y.delay(w), Due.BEYOND);
        }
    }

    private static void known() {
        Doc.promise(40, "KNOWN of a SENSOR at a TICK (0 .. 4000): the READING. BEYOND.");
        TinStation x = new TinStation();
        x.delay(0);
        x.read(3, 77);
        Due.is("its number, at the least TICK", x.known(3, 0), 0);
        Due.is("at the greatest TICK", x.known(3, 4000), 0);
        for (int w : Twins.far(-1, 4)) {
            Twins.refused("known(w, 0)", Stations::home, y -> y.known(w, 0), Due.BEYOND);
            Twins.refused("known(w, 4000)", Stations::home, y -> y.known(w, 4000), Due.BEYOND);
        }
        for (int w : Twins.far(-1, 4001)) {
            Twins.refused("known(0, w)", Stations::home, y -> y.known(0, w), Due.BEYOND);
            Twins.refused("known(3, w)", Stations::home, y -> y.known(3, w), Due.BEYOND);
        }
    }

    private static void knownNone() {
        Doc.promise(40, "NONE: none.");
        Twins.refused("of no SENSOR's", Stations::home, x -> x.known(3, 4000), Due.NONE);
        Twins.refused("not heard yet", Stations::home, x -> x.known(0, 5), Due.NONE);
        Twins.refused("without any", Stations::empty, x -> x.known(0, 4000), Due.NONE);
        Due.is("heard", Stations.home().known(0, 6), 2);
    }
}
