/** Promises 26 to 31. */
public final class TextTest {
    private static final int END = 0;
    private static final int CHECK = 1;
    private static final int ON = 2;
    private static final int OFF = 3;
    private static final int OPEN = 4;
    private static final int CLOSE = 5;
    private static final int WAIT = 6;
    private static final int GO = 7;
    private static final int SAFE = 8;
    private static final int JUMP = 9;
    private static final int ABORT = 10;
    private static final int MEND = 11;

    public static void main(String[] args) {
        lines();
        erase();
        begin();
        halt();
        haltOfWait();
        abortByHand();
        abortOfWait();
        text();
        acts();
        actsThatCannot();
        mending();
        waits();
        jumps();
        checks();
        checksThatAreNone();
        safes();
        aborting();
        endings();
        lineAheadOfRepairsAndPower();
        Due.end();
    }

    private static void lines() {
        TinStation x = new TinStation();
        for (int op = 0; op < 12; op++) {
            Due.is("line()", x.line(op, Integer.MIN_VALUE, -5, Integer.MAX_VALUE), op);
        }
        Due.is("line(12)", x.line(12, 0, 0, 0), Due.BEYOND);
        Due.is("line(-1)", x.line(-1, 0, 0, 0), Due.BEYOND);
        for (int n = 12; n < 40; n++) {
            Due.is("line()", x.line(0, 0, 0, 0), n);
        }
        Due.is("line() 41st", x.line(0, 0, 0, 0), Due.FULL);
        Due.is("line(12) 41st", x.line(12, 0, 0, 0), Due.BEYOND);
        Due.is("count(5)", x.count(5), 40);
        x.begin();
        Due.is("line() while it runs, FULL", x.line(0, 0, 0, 0), Due.STATE);
        Due.is("line(12) while it runs", x.line(12, 0, 0, 0), Due.BEYOND);
        Due.is("found(1)", x.found(1), 4);
        Due.is("found(3)", x.found(3), 1);
        Due.is("found(4)", x.found(4), 1);
    }

    private static void erase() {
        TinStation x = new TinStation();
        Due.is("erase() empty", x.erase(), 0);
        x.line(END, 0, 0, 0);
        x.line(JUMP, 0, 0, 0);
        x.begin();
        Due.is("erase() while it runs", x.erase(), Due.STATE);
        Due.is("count(5)", x.count(5), 2);
        x.ticks(1);
        Due.is("erase()", x.erase(), 2);
        Due.is("count(5)", x.count(5), 0);
        Due.is("how it ended is kept", x.text(6), 1);
        Due.is("begin() of none", x.begin(), Due.STATE);
        Due.is("line() is the first again", x.line(WAIT, 3, 0, 0), 0);
        x.begin();
        x.ticks(1);
        Due.is("the new one is run", x.text(5), 2);
        Due.is("found(3)", x.found(3), 2);
    }

    private static void begin() {
        TinStation x = new TinStation();
        Due.is("begin() of none", x.begin(), Due.STATE);
        x.line(WAIT, 5, 0, 0);
        Due.is("begin()", x.begin(), 1);
        Due.is("begin() again", x.begin(), Due.STATE);
        x.halt(1);
        Due.is("begin() while HALTED", x.begin(), Due.STATE);
        Due.is("found(3)", x.found(3), 3);
        beginAnew();
    }

    private static void beginAnew() {
        TinStation x = new TinStation();
        x.line(SAFE, 1, 0, 0);
        x.line(WAIT, 2, 0, 0);
        x.line(ABORT, 0, 0, 0);
        x.begin();
        x.ticks(6);
        Due.is("runs", x.text(0), 1);
        x.ticks(1);
        Due.is("ended", x.text(6), 3);
        Due.is("begin()", x.begin(), 1);
        int[] due = {1, 0, 0, 0, -1, 0, 3};
        for (int what = 0; what < due.length; what++) {
            Due.is("text(" + what + ") begun anew", x.text(what), due[what]);
        }
        Due.is("abort() without SAFE", x.abort(), 0);
    }

    private static void halt() {
        TinStation x = new TinStation();
        Due.is("halt(1), doesn't run", x.halt(1), Due.STATE);
        Due.is("halt(2)", x.halt(2), Due.BEYOND);
        Due.is("halt(-1)", x.halt(-1), Due.BEYOND);
        x.line(JUMP, 1, 0, 0);
        x.line(JUMP, 0, 0, 0);
        x.begin();
        Due.is("halt(0), isn't", x.halt(0), Due.STATE);
        Due.is("halt(1)", x.halt(1), 1);
        Due.is("halt(1) again", x.halt(1), Due.STATE);
        Due.is("halt(3)", x.halt(3), Due.BEYOND);
        Due.is("text(2)", x.text(2), 1);
        x.ticks(1);
        Due.is("no LINE is done", x.text(1), 0);
        Due.is("it runs", x.text(0), 1);
        Due.is("halt(0)", x.halt(0), 1);
        Due.is("text(2)", x.text(2), 0);
        x.ticks(1);
        Due.is("it goes on", x.text(1), 1);
        Due.is("found(1)", x.found(1), 3);
        Due.is("found(3)", x.found(3), 3);
    }

    private static void haltOfWait() {
        TinStation x = new TinStation();
        x.line(WAIT, 4, 0, 0);
        x.begin();
        x.ticks(2);
        Due.is("WAIT has yet", x.text(5), 2);
        x.halt(1);
        x.ticks(7);
        Due.is("WAIT stands still", x.text(5), 2);
        x.halt(0);
        x.ticks(2);
        Due.is("WAIT is over", x.text(5), 0);
        Due.is("it runs yet", x.text(0), 1);
    }

    private static void abortByHand() {
        TinStation x = new TinStation();
        Due.is("abort(), doesn't run", x.abort(), Due.STATE);
        x.line(SAFE, 2, 0, 0);
        x.line(JUMP, 1, 0, 0);
        x.line(WAIT, 9, 0, 0);
        x.begin();
        Due.is("abort() without SAFE", x.abort(), 0);
        Due.is("text(0)", x.text(0), 0);
        Due.is("text(1)", x.text(1), -1);
        Due.is("text(6)", x.text(6), 3);
        x.begin();
        x.ticks(3);
        x.halt(1);
        Due.is("abort() with SAFE", x.abort(), 1);
        Due.is("RESUMED", x.text(2), 0);
        Due.is("goes on at", x.text(1), 2);
        Due.is("ABORTING", x.text(3), 1);
        Due.is("LINE of SAFE", x.text(4), 2);
        Due.is("no LINE done yet", x.text(5), 0);
        x.ticks(1);
        Due.is("done in the next TICK", x.text(5), 8);
        x.halt(1);
        Due.is("abort() while ABORTING", x.abort(), 0);
        Due.is("text(0)", x.text(0), 0);
        Due.is("text(2)", x.text(2), 0);
        Due.is("text(6)", x.text(6), 3);
        Due.is("abort(), ended", x.abort(), Due.STATE);
        Due.is("found(3)", x.found(3), 2);
    }

    private static void abortOfWait() {
        TinStation x = new TinStation();
        x.line(SAFE, 2, 0, 0);
        x.line(WAIT, 100, 0, 0);
        x.line(END, 0, 0, 0);
        x.begin();
        x.ticks(3);
        Due.is("WAIT has yet", x.text(5), 98);
        x.abort();
        Due.is("no WAIT stands", x.text(5), 0);
        x.ticks(1);
        Due.is("END is done", x.text(6), 2);
    }

    private static void text() {
        TinStation x = new TinStation();
        Due.is("text(7)", x.text(7), Due.BEYOND);
        Due.is("text(-1)", x.text(-1), Due.BEYOND);
        Due.is("found(1)", x.found(1), 2);
        x.line(SAFE, 1, 0, 0);
        x.line(WAIT, 3, 0, 0);
        x.line(END, 0, 0, 0);
        x.begin();
        seen(x, "begun", 1, 0, 0, 0, -1, 0, 0);
        x.ticks(1);
        seen(x, "SAFE", 1, 1, 0, 0, 1, 0, 0);
        x.ticks(1);
        seen(x, "WAIT", 1, 2, 0, 0, 1, 2, 0);
        x.ticks(1);
        seen(x, "WAIT yet", 1, 2, 0, 0, 1, 1, 0);
        x.ticks(1);
        seen(x, "WAIT is over", 1, 2, 0, 0, 1, 0, 0);
        x.ticks(1);
        seen(x, "END", 0, -1, 0, 0, 1, 0, 1);
    }

    private static void seen(TinStation x, String when, int... due) {
        for (int what = 0; what < due.length; what++) {
            Due.is(when + ": text(" + what + ")", x.text(what), due[what]);
        }
    }

    private static TinStation home() {
        TinStation x = Due.withModules(3);
        x.hatch(0, 1);
        x.hatch(1, 2);
        x.person(0);
        x.machine(5, 0, Due.use(1, 5, 0), 1);
        x.machine(1, 0, Due.use(1, 5, 0), 50);
        return x;
    }

    private static void acts() {
        TinStation x = home();
        x.line(OFF, 1, 0, 0);
        x.line(ON, 1, 0, 0);
        x.line(CLOSE, 1, 0, 0);
        x.line(OPEN, 1, 0, 0);
        x.line(GO, 0, 1, 0);
        x.line(GO, 0, 2, 0);
        x.begin();
        x.ticks(1);
        Due.is("OFF", x.of(1, 5), 0);
        x.ticks(1);
        Due.is("ON", x.of(1, 5), 1);
        x.ticks(1);
        Due.is("CLOSE", x.shut(1, 0), 0);
        x.ticks(1);
        Due.is("OPEN", x.shut(1, 1), 1);
        x.ticks(1);
        Due.is("GO", x.about(0, 0), 1);
        x.ticks(1);
        Due.is("GO on", x.about(0, 0), 2);
        Due.is("behind the last", x.text(1), 6);
        Due.is("runs yet", x.text(0), 1);
        x.ticks(1);
        Due.is("ended", x.text(6), 4);
        Due.is("found(1)", x.found(1), 0);
    }

    /** What one tick of a text with a single line leaves: 1 it goes on, 3 it was cut off. */
    private static int afterOne(TinStation x, int op, int a, int b, int c) {
        x.erase();
        x.line(op, a, b, c);
        x.begin();
        x.ticks(1);
        int how = x.text(0) == 1 ? 1 : x.text(6);
        if (how == 1) {
            x.abort();
        }
        return how;
    }

    private static void actsThatCannot() {
        int[] wrong = {-1, 2, 99, Integer.MAX_VALUE, Integer.MIN_VALUE};
        for (int w : wrong) {
            Due.is("ON " + w, afterOne(home(), ON, w, 0, 0), 3);
            Due.is("OFF " + w, afterOne(home(), OFF, w, 0, 0), 3);
            Due.is("OPEN " + w, afterOne(home(), OPEN, w, 0, 0), 3);
            Due.is("CLOSE " + w, afterOne(home(), CLOSE, w, 0, 0), 3);
            Due.is("GO of " + w, afterOne(home(), GO, w, 1, 0), 3);
            Due.is("GO to " + w, afterOne(home(), GO, 0, w, 0), 3);
            Due.is("MEND by " + w, afterOne(home(), MEND, w, 0, 1), 3);
            Due.is("MEND of " + w, afterOne(home(), MEND, 0, w, 1), 3);
        }
        Due.is("ON what is on", afterOne(home(), ON, 1, 0, 0), 1);
        Due.is("OPEN what is open", afterOne(home(), OPEN, 1, 0, 0), 1);
        Due.is("GO where one is", afterOne(home(), GO, 0, 0, 0), 3);
        Due.is("MEND what has no FAULT", afterOne(home(), MEND, 0, 1, 1), 3);
        TinStation x = home();
        afterOne(x, ON, 9, 0, 0);
        Due.is("no act answered: found(1)", x.found(1), 0);
        afterOne(x, GO, 0, 2, 0);
        Due.is("no act answered: found(3)", x.found(3), 0);
    }

    private static void mending() {
        TinStation x = home();
        x.battery(10);
        x.ticks(1);
        Due.is("FAULT", x.of(0, 6), 1);
        Due.is("no SPARE", afterOne(x, MEND, 0, 0, 1), 3);
        x.spares(5, 3);
        Due.is("hours 0", afterOne(x, MEND, 0, 0, 0), 3);
        Due.is("hours 61", afterOne(x, MEND, 0, 0, 61), 3);
        Due.is("SPARES", x.spares(5, -1), 3);
        Due.is("MEND", afterOne(x, MEND, 0, 0, 60), 1);
        Due.is("SPARES then", x.spares(5, -1), 2);
        Due.is("one TICK less at once", x.about(0, 3), 59);
        Due.is("the MACHINE", x.about(0, 2), 0);
        Due.is("again", afterOne(x, MEND, 0, 0, 60), 3);
        Due.is("GO of who REPAIRS", afterOne(x, GO, 0, 1, 0), 3);
        Due.is("found(2)", x.found(2), 0);
    }

    private static void waits() {
        Due.is("WAIT 0", afterOne(new TinStation(), WAIT, 0, 0, 0), 3);
        Due.is("WAIT -1", afterOne(new TinStation(), WAIT, -1, 0, 0), 3);
        Due.is("WAIT 101", afterOne(new TinStation(), WAIT, 101, 0, 0), 3);
        Due.is("WAIT 1", afterOne(new TinStation(), WAIT, 1, 0, 0), 1);
        Due.is("WAIT 100", afterOne(new TinStation(), WAIT, 100, 0, 0), 1);
        TinStation x = new TinStation();
        x.line(WAIT, 1, 0, 0);
        x.line(WAIT, 100, 0, 0);
        x.line(END, 0, 0, 0);
        x.begin();
        x.ticks(1);
        Due.is("WAIT 1 is over", x.text(5), 0);
        x.ticks(1);
        Due.is("WAIT 100 has yet", x.text(5), 99);
        x.ticks(99);
        Due.is("WAIT 100 is over", x.text(0), 1);
        x.ticks(1);
        Due.is("END", x.text(6), 1);
    }

    private static void jumps() {
        Due.is("JUMP 1", afterOne(new TinStation(), JUMP, 1, 0, 0), 3);
        Due.is("JUMP -1", afterOne(new TinStation(), JUMP, -1, 0, 0), 3);
        Due.is("JUMP 0", afterOne(new TinStation(), JUMP, 0, 0, 0), 1);
        Due.is("SAFE 1", afterOne(new TinStation(), SAFE, 1, 0, 0), 3);
        Due.is("SAFE -1", afterOne(new TinStation(), SAFE, -1, 0, 0), 3);
        Due.is("SAFE 0", afterOne(new TinStation(), SAFE, 0, 0, 0), 1);
        TinStation x = new TinStation();
        x.line(JUMP, 2, 0, 0);
        x.line(END, 0, 0, 0);
        x.line(JUMP, 1, 0, 0);
        x.begin();
        int[] next = {2, 1, -1};
        for (int n : next) {
            x.ticks(1);
            Due.is("text(1)", x.text(1), n);
        }
    }

    /** The line that is next behind a CHECK at 0 whose else is 2; -1: cut off. */
    private static int checked(TinStation x, int a, int b) {
        x.erase();
        x.line(CHECK, a, b, 2);
        x.line(END, 0, 0, 0);
        x.line(END, 0, 0, 0);
        x.begin();
        x.ticks(1);
        int next = x.text(1);
        if (next >= 0) {
            x.abort();
        }
        return next;
    }

    private static void checks() {
        TinStation x = Due.withModules(2);
        for (int g = 0; g < 5; g++) {
            x.gas(1, g, 50 + g);
            Due.is("GAS " + g + " just", checked(x, g, (50 + g) * 10 + 1), 1);
            Due.is("GAS " + g + " not", checked(x, g, (51 + g) * 10 + 1), 2);
            Due.is("GAS " + g + " of 0", checked(x, g, 10), 2);
            Due.is("GAS " + g + " of 0: 0", checked(x, g, 0), 1);
        }
        for (int t = 0; t < 4; t++) {
            x.tank(t, 70 + t);
            Due.is("TANK " + t + " just", checked(x, 5, (70 + t) * 10 + t), 1);
            Due.is("TANK " + t + " not", checked(x, 5, (71 + t) * 10 + t), 2);
        }
        x.battery(33);
        Due.is("BATTERY just", checked(x, 6, 330), 1);
        Due.is("BATTERY, cut", checked(x, 6, 339), 1);
        Due.is("BATTERY not", checked(x, 6, 340), 2);
        for (int i = 0; i < 10; i++) {
            x.machine(0, 0, 0, i == 9 ? 1 : 1000);
        }
        Due.is("no FAULT ahead of the TICK", checked(x, 7, 9), 1);
        Due.is("FAULT", checked(x, 7, 9), 2);
        Due.is("no FAULT", checked(x, 7, 8), 1);
    }

    private static void checksThatAreNone() {
        TinStation x = Due.withModules(2);
        x.machine(0, 0, 0, 1000);
        x.tank(4, 100);
        x.tank(5, 100);
        Due.is("a -1", checked(x, -1, 0), -1);
        Due.is("a 8", checked(x, 8, 0), -1);
        for (int a = 0; a < 5; a++) {
            Due.is("no such MODULE", checked(x, a, 2), -1);
            Due.is("no such MODULE", checked(x, a, -1), -1);
        }
        for (int t = 4; t < 10; t++) {
            Due.is("no such TANK", checked(x, 5, t), -1);
        }
        Due.is("no such TANK", checked(x, 5, -1), -1);
        Due.is("no such MACHINE", checked(x, 7, 1), -1);
        Due.is("no such MACHINE -1", checked(x, 7, -1), -1);
        Due.is("b / 10 isn't 0", checked(x, 7, 10), -1);
        Due.is("a MACHINE", checked(x, 7, 0), 1);
        Due.is("how it ended", x.text(6), 3);
        Due.is("c none, not so", afterOne(x, CHECK, 0, 10, 1), 3);
        Due.is("c none, so", afterOne(x, CHECK, 0, 0, 1), 3);
        Due.is("c -1, so", afterOne(x, CHECK, 0, 0, -1), 3);
        Due.is("c 0, so", afterOne(x, CHECK, 0, 0, 0), 1);
        Due.is("no act answered", x.found(1), 0);
    }

    private static void safes() {
        TinStation x = new TinStation();
        x.line(SAFE, 4, 0, 0);
        x.line(SAFE, 3, 0, 0);
        x.line(ON, 0, 0, 0);
        x.line(WAIT, 2, 0, 0);
        x.line(END, 0, 0, 0);
        x.begin();
        x.ticks(3);
        Due.is("goes on at the last SAFE", x.text(1), 3);
        Due.is("LINE of SAFE", x.text(4), 3);
        Due.is("ABORTING", x.text(3), 1);
        x.ticks(2);
        Due.is("runs", x.text(0), 1);
        x.ticks(1);
        Due.is("ABORTED and came to END", x.text(6), 2);
        Due.is("doesn't run", x.text(0), 0);
    }

    private static void aborting() {
        TinStation x = new TinStation();
        x.line(SAFE, 2, 0, 0);
        x.line(ABORT, 0, 0, 0);
        x.line(SAFE, 3, 0, 0);
        x.line(WAIT, 0, 0, 0);
        x.begin();
        x.ticks(1);
        Due.is("not ABORTING", x.text(3), 0);
        x.ticks(1);
        Due.is("ABORTING", x.text(3), 1);
        Due.is("next", x.text(1), 2);
        x.ticks(1);
        Due.is("another SAFE", x.text(4), 3);
        x.ticks(1);
        Due.is("cut off while ABORTING", x.text(6), 3);
        Due.is("doesn't run", x.text(0), 0);
        Due.is("ABORT without SAFE", afterOne(new TinStation(), ABORT, 0, 0, 0), 3);
    }

    private static void endings() {
        TinStation x = new TinStation();
        x.line(SAFE, 0, 0, 0);
        x.begin();
        x.ticks(1);
        Due.is("its last LINE is behind it", x.text(1), 1);
        Due.is("not ended yet", x.text(6), 0);
        x.ticks(1);
        Due.is("ended", x.text(6), 4);
        x.line(END, 0, 0, 0);
        x.begin();
        x.ticks(2);
        Due.is("END", x.text(6), 1);
        x.begin();
        x.ticks(1);
        x.abort();
        x.ticks(2);
        Due.is("ABORTED, END", x.text(6), 2);
        x.begin();
        x.abort();
        Due.is("ABORTED without SAFE", x.text(6), 3);
        x.erase();
        x.line(SAFE, 1, 0, 0);
        x.line(WAIT, 1, 0, 0);
        x.begin();
        x.ticks(1);
        x.abort();
        x.ticks(2);
        Due.is("ABORTED, its last LINE was behind it", x.text(6), 4);
    }

    private static void lineAheadOfRepairsAndPower() {
        TinStation x = home();
        x.battery(100);
        x.gas(0, 1, 10);
        x.line(OFF, 1, 0, 0);
        x.begin();
        x.ticks(1);
        Due.is("off ahead of POWER", x.of(1, 7), 0);
        x.erase();
        x.spares(5, 1);
        Due.is("runs behind its last LINE", x.text(0), 1);
        x.ticks(1);
        x.erase();
        x.line(MEND, 0, 0, 1);
        x.begin();
        x.ticks(1);
        Due.is("mended at once", x.about(0, 2), -1);
        Due.is("RAN at once", x.of(0, 7), 1);
    }
}
