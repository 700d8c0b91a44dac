/** Promises 20 to 25. */
public final class TicksTest {
    public static void main(String[] args) {
        sun();
        dark();
        battery();
        sharing();
        bounds();
        bounding();
        ticks();
        mixing();
        leaksAheadOfHatches();
        firstBreak();
        ahead();
        aheadChangesNothing();
        aheadWithTextAndRepairs();
        aheadFromAnotherStation();
        aheadWithStore();
        aheadWithSpares();
        aheadWithSafe();
        theFullest();
        Due.end();
    }

    private static void sun() {
        TinStation x = new TinStation();
        x.battery(1000);
        Due.is("sun(500, 5000)", x.sun(500, 5000), 1000);
        Due.is("sun(501, 5000)", x.sun(501, 5000), Due.BEYOND);
        Due.is("sun(-1, 5000)", x.sun(-1, 5000), Due.BEYOND);
        Due.is("sun(500, 5001)", x.sun(500, 5001), Due.BEYOND);
        Due.is("sun(500, -1)", x.sun(500, -1), Due.BEYOND);
        x.ticks(1);
        Due.is("LIGHT comes to THE BATTERY", x.battery(-1), 1500);
        Due.is("sun(0, 999)", x.sun(0, 999), 999);
        x.ticks(1);
        Due.is("no LIGHT", x.battery(-1), 999);
        Due.is("sun(0, 0)", x.sun(0, 0), 0);
        Due.is("sun(0, 5000)", x.sun(0, 5000), 0);
        Due.is("found(1)", x.found(1), 4);
    }

    private static void dark() {
        TinStation x = new TinStation();
        x.sun(10, 5000);
        int had = 0;
        for (int t = 0; t < 40; t++) {
            x.ticks(1);
            had += t % 9 < 6 ? 10 : 0;
            Due.is("THE BATTERY behind TICK " + t, x.battery(-1), had);
        }
    }

    private static void battery() {
        TinStation x = new TinStation();
        Due.is("battery(1000)", x.battery(1000), 0);
        Due.is("battery(1001)", x.battery(1001), Due.BEYOND);
        Due.is("battery(-2)", x.battery(-2), Due.BEYOND);
        Due.is("battery(-1)", x.battery(-1), 1000);
        Due.is("battery(0)", x.battery(0), 1000);
        Due.is("battery(-1)", x.battery(-1), 0);
        x.sun(500, 5000);
        Due.is("battery(5000)", x.battery(5000), 0);
        x.ticks(1);
        Due.is("STORE at most", x.battery(-1), 5000);
        Due.is("battery(5001)", x.battery(5001), Due.BEYOND);
        Due.is("found(1)", x.found(1), 3);
    }

    private static void sharing() {
        TinStation x = Due.withModules(1);
        x.machine(0, 0, Due.use(0, 60, 0), 99);
        x.machine(0, 0, Due.use(0, 50, 0), 99);
        x.machine(0, 0, Due.use(0, 40, 0), 99);
        x.machine(0, 0, Due.use(0, 0, 0), 99);
        ran(x, 100, "1011", 0);
        ran(x, 99, "1001", 39);
        ran(x, 50, "0101", 0);
        ran(x, 0, "0001", 0);
        ran(x, 149, "1101", 39);
        ran(x, 150, "1111", 0);
        x.turn(0, 0);
        ran(x, 91, "0111", 1);
        TinStation y = Due.withModules(1);
        y.machine(0, 0, Due.use(0, 60, 0), 99);
        y.sun(200, 100);
        y.battery(50);
        y.ticks(1);
        Due.is("cut to STORE behind what is spent", y.battery(-1), 100);
        y.sun(60, 100);
        y.ticks(1);
        Due.is("SUN alone would do", y.battery(-1), 100);
        y.sun(0, 100);
        y.ticks(1);
        Due.is("THE BATTERY alone", y.battery(-1), 40);
    }

    private static void ran(TinStation x, int charge, String due, int left) {
        x.battery(charge);
        x.ticks(1);
        StringBuilder got = new StringBuilder();
        for (int i = 0; i < due.length(); i++) {
            got.append(x.of(i, 7));
        }
        Due.same("who RAN", got.toString(), due);
        Due.is("THE BATTERY then", x.battery(0), left);
    }

    private static void bounds() {
        TinStation x = new TinStation();
        Due.is("the least", x.bounds(0, 0, 0), 1);
        Due.is("the most", x.bounds(100000, 100000, 100000), 1);
        Due.is("OXYGEN too little", x.bounds(-1, 0, 0), Due.BEYOND);
        Due.is("CARBON too little", x.bounds(0, -1, 0), Due.BEYOND);
        Due.is("HEAT too little", x.bounds(0, 0, -1), Due.BEYOND);
        Due.is("OXYGEN too much", x.bounds(100001, 0, 0), Due.BEYOND);
        Due.is("CARBON too much", x.bounds(0, 100001, 0), Due.BEYOND);
        Due.is("HEAT too much", x.bounds(0, 0, 100001), Due.BEYOND);
        Due.is("found(1)", x.found(1), 6);
    }

    /** Where somebody sleeps: OXYGEN 4 less, CARBON 4 more, HEAT 10 more at each look. */
    private static int aheadWith(int oxygen, int carbon, int heat, int[] bounds) {
        TinStation x = Due.withModules(1);
        x.person(0);
        if (bounds.length == 3) {
            x.bounds(bounds[0], bounds[1], bounds[2]);
        }
        x.gas(0, 0, oxygen);
        x.gas(0, 1, carbon);
        x.gas(0, 4, heat);
        return x.ahead(1);
    }

    private static void bounding() {
        int[] first = {};
        Due.is("all just within", aheadWith(204, 296, 4990, first), 0);
        Due.is("OXYGEN just below", aheadWith(203, 296, 4990, first), 1);
        Due.is("CARBON just above", aheadWith(204, 297, 4990, first), 1);
        Due.is("HEAT just above", aheadWith(204, 296, 4991, first), 1);
        int[] own = {10, 20, 30};
        Due.is("own ones just within", aheadWith(14, 16, 20, own), 0);
        Due.is("own OXYGEN below", aheadWith(13, 16, 20, own), 1);
        Due.is("own CARBON above", aheadWith(14, 17, 20, own), 1);
        Due.is("own HEAT above", aheadWith(14, 16, 21, own), 1);
    }

    private static void ticks() {
        TinStation x = new TinStation();
        Due.is("ticks(0)", x.ticks(0), Due.BEYOND);
        Due.is("ticks(-1)", x.ticks(-1), Due.BEYOND);
        Due.is("ticks(101)", x.ticks(101), Due.BEYOND);
        Due.is("ticks(max)", x.ticks(Integer.MAX_VALUE), Due.BEYOND);
        Due.is("ticks(1)", x.ticks(1), 1);
        for (int t = 101; t < 3000; t += 100) {
            Due.is("ticks(100)", x.ticks(100), t);
        }
        Due.is("ticks(100) too many", x.ticks(100), Due.FULL);
        Due.is("count(4)", x.count(4), 2901);
        Due.is("ticks(99)", x.ticks(99), 3000);
        Due.is("ticks(1)", x.ticks(1), Due.FULL);
        Due.is("ticks(101)", x.ticks(101), Due.BEYOND);
        Due.is("found(1)", x.found(1), 5);
        Due.is("found(4)", x.found(4), 2);
    }

    private static void mixing() {
        TinStation x = Due.withModules(3);
        x.hatch(0, 1);
        x.hatch(2, 1);
        for (int g = 0; g < 5; g++) {
            x.gas(0, g, 100 + g);
        }
        x.gas(2, 3, 3);
        x.ticks(1);
        int[] first = {75, 76, 77, 78, 78};
        int[] second = {19, 19, 19, 20, 20};
        int[] third = {6, 6, 6, 8, 6};
        for (int g = 0; g < 5; g++) {
            Due.is("left in 0", x.gas(0, g, -1), first[g]);
            Due.is("come to 1", x.gas(1, g, -1), second[g]);
            Due.is("come on to 2", x.gas(2, g, -1), third[g]);
        }
        TinStation y = Due.withModules(2);
        y.hatch(0, 1);
        y.gas(0, 0, 3);
        y.gas(1, 1, 3);
        y.gas(0, 2, 4);
        y.gas(1, 3, 4);
        y.ticks(1);
        Due.is("cut to none", y.gas(0, 0, -1), 3);
        Due.is("cut to none, the other way", y.gas(1, 1, -1), 3);
        Due.is("one", y.gas(1, 2, -1), 1);
        Due.is("one the other way", y.gas(0, 3, -1), 1);
    }

    private static void leaksAheadOfHatches() {
        TinStation x = Due.withModules(2);
        x.hatch(0, 1);
        x.gas(0, 3, 1000);
        x.leak(0, 50);
        x.leak(1, 50);
        x.ticks(1);
        Due.is("leaks, then mixes", x.gas(0, 3, -1), 950 - 237);
        Due.is("what comes doesn't leak yet", x.gas(1, 3, -1), 237);
        Due.is("SPACE", x.tank(4, -1), 50);
    }

    private static void firstBreak() {
        TinStation x = Due.withModules(3);
        Due.is("broke(0)", x.broke(0), Due.NONE);
        Due.is("broke(1)", x.broke(1), Due.NONE);
        Due.is("broke(2)", x.broke(2), Due.BEYOND);
        Due.is("broke(-1)", x.broke(-1), Due.BEYOND);
        x.ticks(3);
        Due.is("nobody there", x.broke(0), Due.NONE);
        x.person(2);
        x.person(1);
        x.gas(2, 0, 1000);
        x.gas(1, 0, 1000);
        x.ticks(2);
        Due.is("all well", x.broke(0), Due.NONE);
        x.gas(2, 0, 0);
        x.gas(1, 0, 0);
        Due.is("not ahead of a TICK", x.broke(0), Due.NONE);
        x.ticks(4);
        Due.is("the TICK that went by", x.broke(0), 5);
        Due.is("the least MODULE with one in it", x.broke(1), 1);
        x.gas(1, 0, 1000);
        x.ticks(1);
        Due.is("kept", x.broke(0), 5);
        Due.is("kept, too", x.broke(1), 1);
        Due.is("found(1)", x.found(1), 2);
        Due.is("found(2)", x.found(2), 5);
    }

    private static void ahead() {
        TinStation x = Due.withModules(1);
        x.person(0);
        x.gas(0, 0, 1000);
        x.bounds(200, 100000, 100000);
        Due.is("ahead(0)", x.ahead(0), Due.BEYOND);
        Due.is("ahead(-1)", x.ahead(-1), Due.BEYOND);
        Due.is("ahead(201)", x.ahead(201), Due.BEYOND);
        Due.is("ahead(200) just not", x.ahead(200), 0);
        x.ticks(1);
        Due.is("ahead(200) just so", x.ahead(200), 200);
        Due.is("ahead(199)", x.ahead(199), 0);
        x.gas(0, 0, 203);
        Due.is("ahead(1)", x.ahead(1), 1);
        x.ticks(1);
        Due.is("broken now, broken next", x.ahead(200), 1);
        x.gas(0, 0, 208);
        Due.is("a first one was kept already", x.ahead(200), 3);
        Due.is("found(1)", x.found(1), 3);
    }

    private static TinStation busy() {
        TinStation x = Due.withModules(2);
        x.hatch(0, 1);
        x.person(0);
        x.person(1);
        x.gas(0, 0, 900);
        x.tank(0, 300);
        x.leak(1, 20);
        x.machine(1, 0, Due.use(5, 3, 1), 4);
        x.machine(2, 1, Due.use(5, 3, 1), 40);
        x.spares(1, 3);
        x.sun(5, 50);
        x.line(8, 3, 0, 0);
        x.line(5, 0, 0, 0);
        x.line(7, 0, 1, 0);
        x.line(11, 0, 0, 9);
        x.begin();
        x.ticks(1);
        return x;
    }

    private static void aheadChangesNothing() {
        TinStation x = busy();
        TinStation y = busy();
        Due.is("not broken yet", y.broke(0), Due.NONE);
        y.ticks(50);
        int first = y.broke(0);
        Due.is("broken then", first > 0 ? 1 : 0, 1);
        String was = Due.seen(x);
        Due.is("ahead(200)", x.ahead(200), first);
        Due.is("ahead(first - 1)", x.ahead(first - 1), 0);
        Due.is("ahead(first)", x.ahead(first), first);
        Due.same("behind ahead()", Due.seen(x), was);
        x.bounds(0, 100000, 100000);
        Due.is("ahead(200)", x.ahead(200), 0);
        Due.same("behind ahead(200)", Due.seen(x), was);
        x.ticks(50);
        y.bounds(0, 100000, 100000);
        Due.is("all goes on as without", x.grams(), y.grams());
        Due.is("OXYGEN, too", x.gas(1, 0, -1), y.gas(1, 0, -1));
        Due.is("THE TEXT, too", x.text(6), y.text(6));
    }

    private static void aheadWithTextAndRepairs() {
        TinStation x = Due.withModules(2);
        x.hatch(0, 1);
        x.person(0);
        x.gas(0, 0, 1000);
        x.shut(0, 0);
        x.line(6, 9, 0, 0);
        x.line(4, 0, 0, 0);
        x.line(7, 0, 1, 0);
        x.bounds(700, 100000, 100000);
        Due.is("not begun", x.ahead(200), 76);
        x.begin();
        Due.is("goes by THE TEXT to little OXYGEN", x.ahead(200), 11);
        x.ticks(3);
        Due.is("three TICKS later", x.ahead(200), 8);
        Due.is("THE TEXT is where it was", x.text(5), 6);
        x.halt(1);
        Due.is("HALTED", x.ahead(200), 73);

        TinStation y = Due.withModules(1);
        y.person(0);
        y.gas(0, 0, 100);
        y.bounds(100, 100000, 100000);
        y.tank(0, 100000);
        y.machine(2, 0, Due.use(9, 0, 0), 1);
        y.spares(2, 1);
        y.ticks(1);
        Due.is("OXYGEN", y.gas(0, 0, -1), 104);
        Due.is("with a FAULT, asleep", y.ahead(200), 2);
        y.doing(0, 1);
        Due.is("with a FAULT, at work", y.ahead(200), 1);
        y.repair(0, 0, 1);
        Due.is("REPAIRED in the next: 8 more", y.ahead(200), 3);
        Due.is("it isn't yet", y.of(0, 6), 1);
    }

    /** A look ahead starts from what is now, whatever an earlier look came to. */
    private static void aheadFromAnotherStation() {
        TinStation x = Due.withModules(3);
        x.hatch(2, 1);
        x.person(1);
        x.gas(2, 0, 1000);
        x.bounds(240, 100000, 100000);
        Due.is("OXYGEN comes over the HATCH", x.ahead(1), 0);
        Due.is("and is used up", x.ahead(200), 130);
        x.machine(2, 1, Due.use(90, 30, 0), 1);
        x.spares(2, 2);
        x.tank(0, 10000);
        x.sun(0, 100);
        x.battery(100);
        x.ticks(1);
        x.repair(0, 0, 3);
        int due = realAhead(x, 3, 100);
        Due.is("REPAIRED in three", x.ahead(200), due);
        Due.is("and asked again", x.ahead(200), due);
    }

    /** What it comes to with the breath of one who works, 6, and 80 grams after some ticks. */
    private static int realAhead(TinStation x, int hours, int power) {
        long here = x.gas(1, 0, -1);
        long there = x.gas(2, 0, -1);
        for (int t = 1; t <= 200; t++) {
            here += t == hours && power >= 30 ? 80 : 0;
            here -= 6;
            long flow = (there - here) / 4;
            here += flow;
            there -= flow;
            if (here < 240) {
                return t;
            }
        }
        return 0;
    }

    /** One sleeps, and a COOLER that runs leaves 12 HEAT of each TICK, one that doesn't 10 more. */
    private static TinStation cooled(int power, int life) {
        TinStation x = Due.withModules(1);
        x.person(0);
        x.machine(5, 0, Due.use(10, power, 0), life);
        x.spares(5, 1);
        x.bounds(0, 100000, 21);
        return x;
    }

    private static void aheadWithStore() {
        TinStation x = cooled(50, 1000);
        x.sun(100, 60);
        Due.is("THE BATTERY doesn't last through the dark", x.ahead(200), 8);
        x.sun(100, 160);
        Due.is("THE BATTERY lasts", x.ahead(200), 0);
    }

    private static void aheadWithSpares() {
        TinStation x = cooled(0, 5);
        x.ticks(5);
        Due.is("FAULT", x.of(0, 6), 1);
        x.bounds(0, 100000, 50);
        x.gas(0, 4, 0);
        x.line(11, 0, 0, 1);
        x.begin();
        Due.is("is mended by THE TEXT", x.ahead(200), 8);
        x.spares(5, 0);
        Due.is("there is no SPARE", x.ahead(200), 6);
    }

    private static void aheadWithSafe() {
        TinStation x = cooledWithSafe();
        x.ticks(1);
        Due.is("ABORT, then OFF at the SAFE LINE", x.ahead(200), 2);
        x.ticks(1);
        Due.is("OFF is next", x.ahead(200), 1);
        TinStation y = cooledWithSafe();
        y.ticks(4);
        Due.is("ABORTING already: no OFF any more", y.ahead(200), 0);
    }

    private static TinStation cooledWithSafe() {
        TinStation x = cooled(0, 1000);
        x.line(8, 2, 0, 0);
        x.line(10, 0, 0, 0);
        x.line(3, 0, 0, 0);
        x.line(2, 0, 0, 0);
        x.line(10, 0, 0, 0);
        x.begin();
        return x;
    }

    private static void theFullest() {
        TinStation x = Due.withModules(6);
        for (int h = 0; h < 8; h++) {
            x.hatch(h % 6, (h + 1) % 6);
        }
        for (int p = 0; p < 6; p++) {
            x.person(p);
            x.gas(p, 0, 10000);
            x.leak(p, 50);
        }
        for (int i = 0; i < 10; i++) {
            x.machine(i % 6, i % 6, Due.use(100, 10, 10), 20 + i);
            x.spares(i % 6, 20);
        }
        x.tank(0, 100000);
        x.sun(100, 5000);
        for (int n = 0; n < 40; n++) {
            x.line(9, n == 39 ? 0 : n + 1, 0, 0);
        }
        x.begin();
        int all = x.grams();
        for (int n = 0; n < 30; n++) {
            Due.is("ahead()", x.ahead(200) >= 0 ? 1 : 0, 1);
            Due.is("ticks(10)", x.ticks(10), 10 * n + 10);
            Due.is("each gram is somewhere", x.grams(), all);
            for (int p = 0; p < 6; p++) {
                x.repair(p, p, 3);
            }
        }
        Due.is("THE TEXT went round", x.text(1), 300 % 40);
    }
}
