/** Boundary cases of the text; promises 26 to 31. */
final class EdgesOfText {
    private static final int END = 0;
    private static final int CHECK = 1;
    private static final int ON = 2;
    private static final int OFF = 3;
    private static final int OPEN = 4;
    private static final int CLOSE = 5;
    private static final int WAIT = 6;
    private static final int GO = 7;
    private static final int SAFE = 8;
    private static final int JUMP = 9;
    private static final int ABORT = 10;
    private static final int MEND = 11;
    private static final int GOES_ON = 1;
    private static final int CUT_OFF = 3;

    private EdgesOfText() {
    }

    static void run() {
        atMostFortyLines();
        ends();
        machinesOnAndOff();
        hatchesOpenAndClosed();
        waits();
        goes();
        safe();
        jumps();
        aborts();
        mends();
        checksOfModules();
        checksOfTanks();
        checksOfTheBattery();
        checksOfMachines();
        nextOrElse();
        linesThatThereAre();
        eachTickOneLine();
        whatEndsIt();
        whatCannotBeDone();
        goesOnAtSafe();
        begunItHasNoSafe();
        haltedAndResumed();
        line();
        lineBeyond();
        lineState();
        lineFull();
        erase();
        eraseState();
        begin();
        beginState();
        halt();
        haltState();
        abort();
        abortState();
        text();
        howItEnded();
        textBeyond();
    }

    /** Two modules and a hatch, one person in 0, MACHINE 0 with a FAULT there and 1 without. */
    private static TinStation home() {
        TinStation x = Due.withModules(2);
        x.hatch(0, 1);
        x.person(0);
        x.machine(0, 0, 0, 1);
        x.machine(0, 0, 0, 1000);
        x.spares(0, 20);
        x.ticks(1);
        return x;
    }

    private static TinStation with(TinStation x, int[]... lines) {
        x.erase();
        for (int[] l : lines) {
            x.line(l[0], l.length > 1 ? l[1] : 0, l.length > 2 ? l[2] : 0, l.length > 3 ? l[3] : 0);
        }
        x.begin();
        return x;
    }

    private static int[] l(int... opAndNumbers) {
        return opAndNumbers;
    }

    /** What a tick makes of a text of one line: 1 if it runs yet, else how it ended. */
    private static int single(int... opAndNumbers) {
        TinStation x = with(home(), opAndNumbers);
        x.ticks(1);
        return x.text(0) == 1 ? GOES_ON : x.text(6);
    }

    private static void far(String what, int expected, int[] numbers, int op) {
        for (int w : numbers) {
            Due.is(what + " " + w, single(op, w), expected);
        }
    }

    private static void atMostFortyLines() {
        Doc.terms("THE TEXT has LINES 0, 1, .. (at most 40), each an OP with a, b, c:");
        TinStation x = new TinStation();
        for (int n = 0; n < 40; n++) {
            Due.is("line()", x.line(JUMP, n < 39 ? n + 1 : 0, 0, 0), n);
        }
        Due.is("the 41st", x.line(JUMP, 0, 0, 0), Due.FULL);
        x.begin();
        for (int n = 0; n < 40; n++) {
            Due.is("next", x.text(1), n);
            x.ticks(1);
        }
        Due.is("round again", x.text(1), 0);
    }

    private static void ends() {
        Doc.terms("0 END.");
        TinStation x = with(home(), l(END), l(ON, 0));
        x.ticks(1);
        Due.is("it doesn't run", x.text(0), 0);
        Due.is("it came to END", x.text(6), 1);
    }

    private static void machinesOnAndOff() {
        Doc.terms("2 ON, 3 OFF: MACHINE a.");
        for (int i = 0; i < 2; i++) {
            TinStation x = with(home(), l(OFF, i), l(OFF, i), l(ON, i), l(ON, i));
            int[] due = {0, 0, 1, 1};
            for (int is : due) {
                x.ticks(1);
                Due.is("of(i, 5)", x.of(i, 5), is);
                Due.is("runs", x.text(0), 1);
            }
        }
        far("ON of", CUT_OFF, Twins.far(-1, 2), ON);
        far("OFF of", CUT_OFF, Twins.far(-1, 2), OFF);
        far("ON of", GOES_ON, new int[] {0, 1}, ON);
    }

    private static void hatchesOpenAndClosed() {
        Doc.terms("4 OPEN, 5 CLOSE: HATCH a.");
        TinStation x = with(home(), l(CLOSE, 0), l(CLOSE, 0), l(OPEN, 0), l(OPEN, 0));
        int[] due = {0, 0, 1, 1};
        for (int is : due) {
            x.ticks(1);
            Due.is("shut(0)", x.shut(0, is), is);
            Due.is("runs", x.text(0), 1);
        }
        far("OPEN of", CUT_OFF, Twins.far(-1, 1), OPEN);
        far("CLOSE of", CUT_OFF, Twins.far(-1, 1), CLOSE);
    }

    private static void waits() {
        Doc.terms("6 WAIT: a TICKS (1 .. 100).");
        far("WAIT", CUT_OFF, Twins.far(-1, 0, 101), WAIT);
        for (int n : new int[] {1, 2, 99, 100}) {
            TinStation x = with(home(), l(WAIT, n), l(END));
            x.ticks(n);
            Due.is("it stands " + n + " TICKS", x.text(0), 1);
            x.ticks(1);
            Due.is("END behind it", x.text(6), 1);
        }
    }

    private static void goes() {
        Doc.terms("7 GO: PERSON a to MODULE b.");
        TinStation x = with(home(), l(GO, 0, 1), l(GO, 0, 0), l(GO, 0, 0));
        x.ticks(1);
        Due.is("there", x.about(0, 0), 1);
        x.ticks(1);
        Due.is("and back", x.about(0, 0), 0);
        x.ticks(1);
        Due.is("where one is one can't go", x.text(6), CUT_OFF);
        for (int w : Twins.far(-1, 1)) {
            Due.is("PERSON " + w, single(GO, w, 1), CUT_OFF);
        }
        for (int w : Twins.far(-1, 2)) {
            Due.is("to MODULE " + w, single(GO, 0, w), CUT_OFF);
        }
        TinStation y = home();
        y.shut(0, 0);
        with(y, l(GO, 0, 1));
        y.ticks(1);
        Due.is("closed", y.text(6), CUT_OFF);
        TinStation z = home();
        z.repair(0, 0, 9);
        with(z, l(GO, 0, 1));
        z.ticks(1);
        Due.is("REPAIRS", z.text(6), CUT_OFF);
    }

    private static void safe() {
        Doc.terms("8 SAFE: from now on an abort goes on at LINE a.");
        TinStation x = with(home(), l(SAFE, 3), l(ABORT), l(END), l(WAIT, 9));
        x.ticks(1);
        Due.is("LINE of SAFE", x.text(4), 3);
        x.ticks(1);
        Due.is("goes on there", x.text(1), 3);
        TinStation y = with(home(), l(ABORT), l(SAFE, 0));
        y.ticks(1);
        Due.is("not ahead of it", y.text(6), CUT_OFF);
        TinStation z = with(home(), l(SAFE, 0), l(WAIT, 9));
        z.ticks(2);
        Due.is("the first LINE", z.abort(), 1);
        Due.is("is next", z.text(1), 0);
    }

    private static void jumps() {
        Doc.terms("9 JUMP to LINE a.");
        TinStation x = with(home(), l(JUMP, 2), l(JUMP, 1), l(JUMP, 0));
        for (int due : new int[] {2, 0, 2, 0}) {
            x.ticks(1);
            Due.is("next", x.text(1), due);
        }
        TinStation y = with(home(), l(JUMP, 0));
        y.ticks(100);
        Due.is("to itself", y.text(1), 0);
    }

    private static void aborts() {
        Doc.terms("10 ABORT.");
        Due.is("without SAFE", single(ABORT), CUT_OFF);
        TinStation x = with(home(), l(SAFE, 2), l(ABORT), l(END));
        x.ticks(2);
        Due.is("ABORTING", x.text(3), 1);
        Due.is("runs", x.text(0), 1);
    }

    private static void mends() {
        Doc.terms("11 MEND: PERSON a REPAIRS MACHINE b in c TICKS.");
        Due.is("in 1", single(MEND, 0, 0, 1), GOES_ON);
        Due.is("in 60", single(MEND, 0, 0, 60), GOES_ON);
        for (int w : Twins.far(-1, 0, 61)) {
            Due.is("in " + w, single(MEND, 0, 0, w), CUT_OFF);
        }
        for (int w : Twins.far(-1, 1)) {
            Due.is("PERSON " + w, single(MEND, w, 0, 1), CUT_OFF);
        }
        for (int w : Twins.far(-1, 2)) {
            Due.is("MACHINE " + w, single(MEND, 0, w, 1), CUT_OFF);
        }
        Due.is("no FAULT", single(MEND, 0, 1, 1), CUT_OFF);
        TinStation x = with(home(), l(MEND, 0, 0, 60), l(MEND, 0, 0, 60));
        x.ticks(1);
        Due.is("who", x.about(0, 2), 0);
        Due.is("this TICK counts already", x.about(0, 3), 59);
        Due.is("a SPARE is spent", x.spares(0, -1), 19);
        x.ticks(1);
        Due.is("REPAIRS already", x.text(6), CUT_OFF);
        Due.is("goes on to REPAIR", x.about(0, 3), 58);
        TinStation y = home();
        y.spares(0, 0);
        with(y, l(MEND, 0, 0, 1));
        y.ticks(1);
        Due.is("no SPARE", y.text(6), CUT_OFF);
    }

    /** The line that is next behind a CHECK at 0 with LINE 2 for else; -1: it can't be done. */
    private static int checked(TinStation x, int a, int b) {
        if (x.text(0) == 1) {
            x.abort();
        }
        with(x, l(CHECK, a, b, 2), l(END), l(END));
        x.ticks(1);
        return x.text(1);
    }

    private static void checksOfModules() {
        Doc.terms("1 CHECK (see below).");
        Due.is("it is known", single(CHECK, 6, 0, 0), GOES_ON);
        Doc.terms("CHECKS: a is 0 .. 4: GAS a, or (4) HEAT, of MODULE b modulo 10, is b / 10 or "
                + "more;");
        for (int a = 0; a < 5; a++) {
            TinStation x = Due.withModules(6);
            x.gas(0, a, 20);
            x.gas(5, a, 100000);
            Due.is("just as much", checked(x, a, 200), 1);
            Due.is("one less", checked(x, a, 190), 1);
            Due.is("one more", checked(x, a, 210), 2);
            Due.is("as much in 5", checked(x, a, 1000005), 1);
            Due.is("one more in 5", checked(x, a, 1000015), 2);
            Due.is("0 of none", checked(x, a, 1), 1);
            Due.is("1 of none", checked(x, a, 11), 2);
            Due.is("MODULE 6", checked(x, a, 6), -1);
            Due.is("MODULE 9", checked(x, a, 9), -1);
            Due.is("MODULE 7 of the greatest b", checked(x, a, Integer.MAX_VALUE), -1);
            Due.is("the most of MODULE 0", checked(x, a, 2147483640), 2);
            Due.is("b -1", checked(x, a, -1), -1);
            Due.is("-1 or more in 0", checked(x, a, -10), 1);
            Due.is("the least b", checked(x, a, Integer.MIN_VALUE), -1);
        }
        TinStation y = home();
        Due.is("a -1", checked(y, -1, 0), -1);
        Due.is("a 8", checked(y, 8, 0), -1);
        Due.is("the greatest a", checked(y, Integer.MAX_VALUE, 0), -1);
        Due.is("the least a", checked(y, Integer.MIN_VALUE, 0), -1);
    }

    private static void checksOfTanks() {
        Doc.terms("5: the TANK b modulo 10 has b / 10 or more;");
        TinStation x = new TinStation();
        for (int t = 0; t < 4; t++) {
            x.tank(t, 1000000 - t);
            Due.is("just as much", checked(x, 5, (1000000 - t) * 10 + t), 1);
            Due.is("one more", checked(x, 5, (1000001 - t) * 10 + t), 2);
            x.tank(t, 0);
            Due.is("0 of none", checked(x, 5, t), 1);
            Due.is("1 of none", checked(x, 5, 10 + t), 2);
        }
        for (int t = 4; t < 10; t++) {
            Due.is("no TANK " + t, checked(x, 5, t), -1);
        }
        Due.is("b -1", checked(x, 5, -1), -1);
    }

    private static void checksOfTheBattery() {
        Doc.terms("6: the BATTERY has b / 10 or more;");
        TinStation x = new TinStation();
        Due.is("0 of none", checked(x, 6, 0), 1);
        Due.is("9 / 10 of none", checked(x, 6, 9), 1);
        Due.is("1 of none", checked(x, 6, 10), 2);
        Due.is("-9 / 10 is cut to 0", checked(x, 6, -9), 1);
        Due.is("-1 of none", checked(x, 6, -10), 1);
        x.sun(0, 5000);
        x.battery(5000);
        Due.is("just as much", checked(x, 6, 50000), 1);
        Due.is("and a cut bit", checked(x, 6, 50009), 1);
        Due.is("one more", checked(x, 6, 50010), 2);
        Due.is("the most", checked(x, 6, Integer.MAX_VALUE), 2);
    }

    private static void checksOfMachines() {
        Doc.terms("7: MACHINE b modulo 10 has no FAULT (b / 10 is 0).");
        TinStation x = Due.withModules(1);
        for (int i = 0; i < 9; i++) {
            x.machine(0, 0, 0, i == 8 ? 1 : 1000);
        }
        x.ticks(1);
        for (int i = 0; i < 8; i++) {
            Due.is("no FAULT", checked(x, 7, i), 1);
            Due.is("b / 10 is 1", checked(x, 7, 10 + i), -1);
        }
        Due.is("a FAULT", checked(x, 7, 8), 2);
        Due.is("no such MACHINE", checked(x, 7, 9), -1);
        x.machine(0, 0, 0, 1000);
        Due.is("the tenth", checked(x, 7, 9), 1);
        Due.is("b -1", checked(x, 7, -1), -1);
        Due.is("b -10", checked(x, 7, -10), -1);
        Due.is("b 10", checked(x, 7, 10), -1);
        x.turn(0, 0);
        Due.is("off is no FAULT", checked(x, 7, 0), 1);
    }

    private static void nextOrElse() {
        Doc.terms("If it is so THE TEXT goes on with the next LINE, else with LINE c.");
        for (int c = 0; c < 3; c++) {
            TinStation x = with(home(), l(JUMP, 1), l(CHECK, 6, 0, c), l(END));
            x.ticks(2);
            Due.is("so: the next, whatever c", x.text(1), 2);
            TinStation y = with(home(), l(JUMP, 1), l(CHECK, 6, 10, c), l(END));
            y.ticks(2);
            Due.is("not so: c", y.text(1), c);
        }
        TinStation z = with(home(), l(CHECK, 6, 0, 0));
        z.ticks(1);
        Due.is("so, and it was the last", z.text(1), 1);
        z.ticks(1);
        Due.is("the LINE behind it isn't there", z.text(6), 4);
    }

    private static void linesThatThereAre() {
        Doc.terms("(JUMP and SAFE tell LINES that there are; c of a CHECK, too.)");
        for (int op : new int[] {JUMP, SAFE}) {
            far("of one LINE", CUT_OFF, Twins.far(-1, 1, 40), op);
            far("of one LINE", GOES_ON, new int[] {0}, op);
            TinStation x = with(home(), l(op, 1), l(END));
            x.ticks(1);
            Due.is("the last LINE of two", x.text(0), 1);
            TinStation y = with(home(), l(op, 2), l(END));
            y.ticks(1);
            Due.is("behind the last of two", y.text(6), CUT_OFF);
        }
        for (int w : Twins.far(-1, 1, 40)) {
            Due.is("c " + w + ", not so", single(CHECK, 6, 10, w), CUT_OFF);
            Due.is("c " + w + ", so", single(CHECK, 6, 0, w), CUT_OFF);
        }
        Due.is("c 0, not so", single(CHECK, 6, 10, 0), GOES_ON);
        Due.is("c 0, so", single(CHECK, 6, 0, 0), GOES_ON);
    }

    private static void eachTickOneLine() {
        Doc.terms("It RUNS from LINE 0 on when begun: each TICK one LINE (a WAIT stands as long "
                + "as it tells);");
        TinStation x = with(home(), l(OFF, 0), l(OFF, 1), l(WAIT, 2), l(ON, 0), l(WAIT, 1),
                l(ON, 1));
        int[][] due = {{0, 1}, {0, 0}, {0, 0}, {0, 0}, {1, 0}, {1, 0}, {1, 1}};
        Due.is("LINE 0 is first", x.text(1), 0);
        for (int t = 0; t < due.length; t++) {
            x.ticks(1);
            Due.is("MACHINE 0 behind TICK " + t, x.of(0, 5), due[t][0]);
            Due.is("MACHINE 1 behind TICK " + t, x.of(1, 5), due[t][1]);
        }
        TinStation y = with(home(), l(OFF, 0), l(ON, 0), l(END));
        y.ticks(3);
        y.begin();
        Due.is("begun anew: from LINE 0", y.text(1), 0);
        y.ticks(1);
        Due.is("OFF again", y.of(0, 5), 0);
    }

    private static void whatEndsIt() {
        Doc.terms("END, or a LINE that isn't there, ends it;");
        Due.is("END", single(END), 1);
        TinStation x = with(home(), l(ON, 0));
        x.ticks(1);
        Due.is("the last is done: it runs", x.text(0), 1);
        Due.is("one that isn't there is next", x.text(1), 1);
        x.ticks(1);
        Due.is("it ends", x.text(0), 0);
        Due.is("behind the last", x.text(6), 4);
        TinStation y = Due.withModules(1);
        y.machine(0, 0, 0, 1000);
        for (int n = 0; n < 40; n++) {
            y.line(n % 2 == 0 ? OFF : ON, 0, 0, 0);
        }
        y.begin();
        y.ticks(40);
        Due.is("40 are done", y.text(1), 40);
        Due.is("it runs yet", y.text(0), 1);
        y.ticks(1);
        Due.is("it ends", y.text(6), 4);
    }

    private static void whatCannotBeDone() {
        Doc.terms("what can't be done (an act of hand would answer a finding; a CHECK, JUMP, "
                + "SAFE, WAIT with a number that is none) ABORTS it, as ABORT does:");
        int[][] cannot = {{ABORT}, {ON, 2}, {OFF, -1}, {OPEN, 1}, {CLOSE, -1}, {GO, 1, 1},
            {GO, 0, 0}, {GO, 0, 2}, {MEND, 0, 1, 1}, {MEND, 0, 0, 0}, {MEND, 0, 0, 61},
            {CHECK, 8, 0, 0}, {CHECK, 0, 2, 0}, {CHECK, 5, 4, 0}, {CHECK, 7, 2, 0},
            {CHECK, 7, 10, 0}, {CHECK, 6, 0, 4}, {JUMP, 4}, {JUMP, -1}, {SAFE, 4}, {SAFE, -1},
            {WAIT, 0}, {WAIT, 101}};
        for (int[] c : cannot) {
            TinStation x = with(home(), l(SAFE, 3), c, l(END), l(WAIT, 9));
            String was = withoutText(x);
            x.ticks(2);
            String what = "OP " + c[0] + " of " + (c.length > 1 ? c[1] : 0);
            Due.is(what + ": runs", x.text(0), 1);
            Due.is(what + ": at SAFE", x.text(1), 3);
            Due.is(what + ": ABORTING", x.text(3), 1);
            Due.is(what + ": SAFE stays", x.text(4), 3);
            Due.is(what + ": no WAIT", x.text(5), 0);
            Due.same(what + ": nothing is done", withoutText(x), was);
            for (int k = 1; k <= 5; k++) {
                Due.is(what + ": no act answered a finding", x.found(k), 0);
            }
            Due.is(what + ": without SAFE", single(c), CUT_OFF);
        }
    }

    /** Where people are and what is on, open, repaired or spent. */
    private static String withoutText(TinStation x) {
        int open = x.shut(0, 1);
        x.shut(0, open);
        return x.about(0, 0) + " " + x.about(0, 2) + " " + x.of(0, 5) + x.of(1, 5)
                + x.of(0, 6) + " " + open + " " + x.spares(0, -1);
    }

    private static void goesOnAtSafe() {
        Doc.terms("it goes on at the LINE that SAFE told last (in the next TICK; no WAIT stands "
                + "then), if there is one and it isn't ABORTING already, and is ABORTING from "
                + "then on; else it ends.");
        TinStation x = with(home(), l(SAFE, 4), l(SAFE, 3), l(ABORT), l(OFF, 0), l(OFF, 1),
                l(ABORT));
        x.ticks(3);
        Due.is("the last that was told", x.text(1), 3);
        Due.is("ABORTING", x.text(3), 1);
        Due.is("not in this TICK", x.of(0, 5), 1);
        x.ticks(1);
        Due.is("in the next", x.of(0, 5), 0);
        Due.is("ABORTING yet", x.text(3), 1);
        x.ticks(1);
        Due.is("it goes on from there", x.of(1, 5), 0);
        x.ticks(1);
        Due.is("ABORTING already: it ends", x.text(0), 0);
        Due.is("so", x.text(6), CUT_OFF);
        TinStation y = with(home(), l(SAFE, 2), l(WAIT, 100), l(OFF, 0));
        y.ticks(3);
        Due.is("a WAIT stands", y.text(5), 98);
        y.abort();
        Due.is("no WAIT stands", y.text(5), 0);
        y.ticks(1);
        Due.is("done in the next TICK", y.of(0, 5), 0);
        TinStation z = with(home(), l(SAFE, 2), l(ABORT), l(SAFE, 4), l(ABORT), l(OFF, 0));
        z.ticks(4);
        Due.is("another SAFE doesn't help who is ABORTING", z.text(6), CUT_OFF);
        Due.is("none: it ends", single(ABORT), CUT_OFF);
    }

    private static void begunItHasNoSafe() {
        Doc.terms("Begun, it has no SAFE, and isn't ABORTING.");
        TinStation x = with(home(), l(SAFE, 2), l(ABORT), l(END));
        x.ticks(3);
        Due.is("it came to an END", x.text(6), 2);
        x.begin();
        Due.is("no SAFE", x.text(4), -1);
        Due.is("not ABORTING", x.text(3), 0);
        Due.is("so an abort ends it", x.abort(), 0);
        x.begin();
        x.ticks(1);
        Due.is("SAFE again", x.abort(), 1);
    }

    private static void haltedAndResumed() {
        Doc.terms("It may be HALTED (no LINE is done, WAITS stand still) and RESUMED.");
        TinStation x = with(home(), l(WAIT, 3), l(OFF, 0));
        x.halt(1);
        x.ticks(5);
        Due.is("no LINE is done", x.text(1), 0);
        x.halt(0);
        x.ticks(2);
        x.halt(1);
        Due.is("one yet", x.text(5), 1);
        x.ticks(100);
        Due.is("it stands still", x.text(5), 1);
        x.halt(0);
        x.ticks(1);
        Due.is("over", x.text(5), 0);
        x.halt(1);
        x.ticks(1);
        Due.is("not yet OFF", x.of(0, 5), 1);
        x.halt(0);
        x.ticks(1);
        Due.is("OFF", x.of(0, 5), 0);
        x.halt(1);
        x.ticks(9);
        Due.is("behind the last, HALTED: it runs", x.text(0), 1);
        x.halt(0);
        x.ticks(1);
        Due.is("RESUMED: it ends", x.text(6), 4);
    }

    private static void line() {
        Doc.promise(26, "A LINE comes to the end of THE TEXT: its number.");
        TinStation x = new TinStation();
        for (int op = 0; op < 12; op++) {
            int even = op % 2 == 0 ? Integer.MAX_VALUE : Integer.MIN_VALUE;
            Due.is("whatever its numbers", x.line(op, even, -even, even), op);
        }
        Due.is("LINES", x.count(5), 12);
        x.begin();
        x.ticks(1);
        Due.is("it can be run", x.text(6), 1);
        Due.is("it comes to the end", x.line(0, 0, 0, 0), 12);
    }

    private static TinStation erased() {
        TinStation x = Stations.full();
        x.erase();
        return x;
    }

    private static void lineBeyond() {
        Doc.promise(26, "BEYOND: op isn't 0 .. 11.");
        Due.is("0", new TinStation().line(0, 0, 0, 0), 0);
        Due.is("11", new TinStation().line(11, 0, 0, 0), 0);
        for (int w : Twins.far(-1, 12)) {
            Twins.refused("op w", Stations::empty, x -> x.line(w, 0, 0, 0), Due.BEYOND);
            Twins.refused("op w, runs", Stations::home, x -> x.line(w, 0, 0, 0), Due.BEYOND);
            Twins.refused("op w, FULL", Stations::full, x -> x.line(w, 0, 0, 0), Due.BEYOND);
        }
    }

    private static TinStation fullAndRunning() {
        TinStation x = Stations.full();
        x.begin();
        return x;
    }

    private static TinStation halted() {
        TinStation x = Stations.home();
        x.halt(1);
        return x;
    }

    private static void lineState() {
        Doc.promise(26, "STATE: it runs.");
        for (int op = 0; op < 12; op += 11) {
            int one = op;
            Twins.refused("runs", Stations::home, x -> x.line(one, 0, 0, 0), Due.STATE);
            Twins.refused("HALTED", () -> halted(), x -> x.line(one, 0, 0, 0), Due.STATE);
            Twins.refused("40", () -> fullAndRunning(), x -> x.line(one, 0, 0, 0), Due.STATE);
        }
        TinStation x = Stations.home();
        x.abort();
        Due.is("ABORTING, it runs", x.line(0, 0, 0, 0), Due.STATE);
        x.abort();
        Due.is("it has ended", x.line(0, 0, 0, 0), 5);
    }

    private static void lineFull() {
        Doc.promise(26, "FULL.");
        TinStation x = new TinStation();
        for (int n = 0; n < 39; n++) {
            x.line(0, 0, 0, 0);
        }
        Due.is("the 40th", x.line(0, 0, 0, 0), 39);
        Twins.refused("the 41st", Stations::full, y -> y.line(0, 0, 0, 0), Due.FULL);
    }

    private static void erase() {
        Doc.promise(27, "THE TEXT is empty: how many LINES it had.");
        TinStation x = new TinStation();
        Due.is("none", x.erase(), 0);
        x.line(0, 0, 0, 0);
        Due.is("one", x.erase(), 1);
        TinStation y = Stations.full();
        Due.is("all", y.erase(), 40);
        Due.is("empty", y.count(5), 0);
        Due.is("it can't be begun", y.begin(), Due.STATE);
        Due.is("nothing to erase", y.erase(), 0);
        for (int n = 0; n < 40; n++) {
            Due.is("room for all again", y.line(WAIT, 5, 0, 0), n);
        }
        y.begin();
        y.ticks(1);
        Due.is("none of the old ones is done", y.text(5), 4);
    }

    private static void eraseState() {
        Doc.promise(27, "STATE: it runs.");
        Twins.refused("runs", Stations::home, TinStation::erase, Due.STATE);
        Twins.refused("HALTED", () -> halted(), TinStation::erase, Due.STATE);
        Twins.refused("40", () -> fullAndRunning(), TinStation::erase, Due.STATE);
        TinStation x = with(home(), l(ON, 0));
        x.ticks(1);
        Due.is("behind the last it runs yet", x.erase(), Due.STATE);
        x.ticks(1);
        Due.is("not any more", x.erase(), 1);
    }

    private static void begin() {
        Doc.promise(28, "THE TEXT is begun: 1.");
        TinStation x = new TinStation();
        x.line(END, 0, 0, 0);
        Due.is("of one LINE", x.begin(), 1);
        Due.is("runs", x.text(0), 1);
        x.ticks(1);
        Due.is("again", x.begin(), 1);
        Due.is("of 40", Stations.full().begin(), 1);
    }

    private static void beginState() {
        Doc.promise(28, "STATE: it runs, or is empty.");
        Twins.refused("runs", Stations::home, TinStation::begin, Due.STATE);
        Twins.refused("HALTED", () -> halted(), TinStation::begin, Due.STATE);
        Twins.refused("empty", Stations::empty, TinStation::begin, Due.STATE);
        Twins.refused("erased", () -> erased(), TinStation::begin, Due.STATE);
        TinStation x = with(home(), l(ON, 0));
        x.ticks(1);
        Due.is("behind the last it runs yet", x.begin(), Due.STATE);
        x.ticks(1);
        Due.is("not any more", x.begin(), 1);
    }

    private static void halt() {
        Doc.promise(29, "THE TEXT is HALTED (1), or RESUMED (0): 1. BEYOND.");
        TinStation x = Stations.home();
        Due.is("HALTED", x.halt(1), 1);
        Due.is("so", x.text(2), 1);
        Due.is("RESUMED", x.halt(0), 1);
        Due.is("so", x.text(2), 0);
        for (int w : Twins.far(-1, 2)) {
            Twins.refused("runs", Stations::home, y -> y.halt(w), Due.BEYOND);
            Twins.refused("HALTED", () -> halted(), y -> y.halt(w), Due.BEYOND);
            Twins.refused("doesn't run", Stations::empty, y -> y.halt(w), Due.BEYOND);
        }
    }

    private static void haltState() {
        Doc.promise(29, "STATE: it doesn't run, or is so.");
        for (int is = 0; is < 2; is++) {
            int one = is;
            Twins.refused("never begun", Stations::full, x -> x.halt(one), Due.STATE);
            Twins.refused("empty", Stations::empty, x -> x.halt(one), Due.STATE);
        }
        Twins.refused("HALTED already", () -> halted(), x -> x.halt(1), Due.STATE);
        Twins.refused("isn't HALTED", Stations::home, x -> x.halt(0), Due.STATE);
        TinStation x = with(home(), l(END));
        x.ticks(1);
        Due.is("ended: halt(1)", x.halt(1), Due.STATE);
        Due.is("ended: halt(0)", x.halt(0), Due.STATE);
    }

    private static void abort() {
        Doc.promise(30, "THE TEXT is ABORTED by hand, as by a LINE that can't be done (also when "
                + "HALTED: it is RESUMED then): 1 if it goes on, 0 if it has ended by that.");
        TinStation x = Stations.home();
        Due.is("it goes on", x.abort(), 1);
        Due.is("at SAFE", x.text(1), 3);
        Due.is("ABORTING already: it ends", x.abort(), 0);
        Due.is("ended", x.text(6), CUT_OFF);
        Due.is("it doesn't run", x.text(0), 0);
        TinStation y = halted();
        Due.is("when HALTED", y.abort(), 1);
        Due.is("RESUMED", y.text(2), 0);
        y.ticks(1);
        Due.is("a LINE is done", y.text(1), 4);
        TinStation z = Stations.full();
        z.begin();
        z.halt(1);
        Due.is("HALTED without SAFE", z.abort(), 0);
        Due.is("isn't HALTED", z.text(2), 0);
        z.begin();
        Due.is("nor when begun anew", z.text(2), 0);
        Due.is("just begun", z.abort(), 0);
        Due.is("no TICK goes by", z.count(4), 0);
    }

    private static void abortState() {
        Doc.promise(30, "STATE: it doesn't run.");
        Twins.refused("never begun", Stations::full, TinStation::abort, Due.STATE);
        Twins.refused("empty", Stations::empty, TinStation::abort, Due.STATE);
        TinStation x = with(home(), l(ON, 0));
        x.ticks(1);
        Due.is("behind the last it runs yet", x.abort(), 0);
        Due.is("ended", x.abort(), Due.STATE);
        Due.is("how it ended stays", x.text(6), CUT_OFF);
    }

    private static void seen(String when, TinStation x, int... due) {
        for (int what = 0; what < due.length; what++) {
            Due.is(when + ": text(" + what + ")", x.text(what), due[what]);
        }
    }

    private static void text() {
        Doc.promise(31, "Of THE TEXT: 0 1 if it runs, 1 the LINE that is next (-1: it doesn't "
                + "run), 2 1 if HALTED, 3 1 if ABORTING, 4 LINE of SAFE (-1), 5 how many TICKS a "
                + "WAIT has yet,");
        seen("a new one", new TinStation(), 0, -1, 0, 0, -1, 0);
        seen("not begun", Stations.full(), 0, -1, 0, 0, -1, 0);
        TinStation x = with(home(), l(SAFE, 0), l(WAIT, 100), l(JUMP, 2));
        seen("begun", x, 1, 0, 0, 0, -1, 0);
        x.ticks(1);
        seen("SAFE", x, 1, 1, 0, 0, 0, 0);
        x.ticks(1);
        Due.is("the longest WAIT", x.text(5), 99);
        x.halt(1);
        Due.is("HALTED", x.text(2), 1);
        Due.is("WAIT, HALTED", x.text(5), 99);
        x.halt(0);
        x.ticks(98);
        Due.is("one yet", x.text(5), 1);
        x.ticks(1);
        seen("WAIT is over", x, 1, 2, 0, 0, 0, 0);
        x.abort();
        seen("ABORTED", x, 1, 0, 0, 1, 0, 0);
    }

    private static void howItEnded() {
        Doc.promise(31, "6 how it ended last: 0 it never did, 1 END, 2 it was ABORTED and came "
                + "to an END, 3 it was ABORTED without SAFE, or while ABORTING, 4 its last LINE "
                + "was behind it.");
        TinStation x = home();
        Due.is("it never did", x.text(6), 0);
        with(x, l(END));
        Due.is("not when begun", x.text(6), 0);
        x.ticks(1);
        Due.is("END", x.text(6), 1);
        with(x, l(SAFE, 2), l(ABORT), l(END));
        x.ticks(2);
        Due.is("as the last time, until it ends", x.text(6), 1);
        x.ticks(1);
        Due.is("ABORTED and came to an END", x.text(6), 2);
        with(x, l(ABORT));
        x.ticks(1);
        Due.is("ABORTED without SAFE", x.text(6), 3);
        with(x, l(SAFE, 0), l(ON, 0));
        x.ticks(3);
        Due.is("its last LINE was behind it", x.text(6), 4);
        with(x, l(SAFE, 0), l(ABORT));
        x.ticks(4);
        Due.is("while ABORTING", x.text(6), 3);
        with(x, l(SAFE, 1), l(ABORT, 0), l(END));
        x.ticks(3);
        Due.is("SAFE at the ABORT itself", x.text(6), 3);
        with(x, l(SAFE, 0), l(END));
        x.ticks(1);
        x.abort();
        x.ticks(2);
        Due.is("by hand, then END", x.text(6), 2);
        x.erase();
        Due.is("kept when it is erased", x.text(6), 2);
    }

    private static void textBeyond() {
        Doc.promise(31, "BEYOND: another what.");
        for (int w : Twins.far(-1, 7)) {
            Twins.refused("text(w), runs", Stations::home, x -> x.text(w), Due.BEYOND);
            Twins.refused("text(w), empty", Stations::empty, x -> x.text(w), Due.BEYOND);
        }
    }
}
