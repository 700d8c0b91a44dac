/** Promises 32 to 35. */
public final class HuntTest {
    public static void main(String[] args) {
        hunt();
        test();
        testFindings();
        best();
        bestFindings();
        bestOfTheMost();
        Due.end();
    }

    private static void hunt() {
        TinStation x = new TinStation();
        Due.is("hunt() of none", x.hunt(), 0);
        Due.is("suspects()", x.suspects(), 0);
        for (int n = 1; n <= 6; n++) {
            x.module();
            Due.is("one that came isn't a SUSPECT", x.suspects(), (1 << n - 1) - 1);
            Due.is("hunt()", x.hunt(), n);
            Due.is("suspects()", x.suspects(), (1 << n) - 1);
        }
        x.test(0, 3);
        Due.is("suspects()", x.suspects(), 8);
        Due.is("hunt() again", x.hunt(), 6);
        Due.is("suspects() again", x.suspects(), 63);
    }

    /** 0 - 1 - 2 - 3 - 4, a second way 1 - 3, and 5 alone. */
    private static TinStation chain() {
        TinStation x = Due.withModules(6);
        x.hatch(0, 1);
        x.hatch(2, 1);
        x.hatch(2, 3);
        x.hatch(4, 3);
        x.hatch(3, 1);
        return x;
    }

    private static int asked(int closed, int module) {
        TinStation x = chain();
        x.hunt();
        int left = x.test(closed, module);
        Due.is("suspects() as told", x.suspects(), left);
        return left;
    }

    private static void test() {
        Due.is("all open", asked(0, 0), 31);
        Due.is("all open, the one alone", asked(0, 5), 32);
        Due.is("all closed", asked(31, 2), 4);
        Due.is("without the first", asked(1, 0), 1);
        Due.is("without the first, the rest", asked(1, 4), 30);
        Due.is("the other way round stays", asked(2, 1), 31);
        Due.is("both ways closed", asked(2 + 16, 0), 3);
        Due.is("both ways closed, the rest", asked(2 + 16, 2), 28);
        TinStation x = chain();
        x.hunt();
        x.shut(0, 0);
        Due.is("how they are doesn't matter", x.test(0, 0), 31);
        Due.is("narrower", x.test(2 + 16, 3), 28);
        Due.is("narrower yet", x.test(8, 1), 12);
        Due.is("nobody left", x.test(8, 4), Due.NONE);
        Due.is("unchanged", x.suspects(), 12);
        Due.is("found(2)", x.found(2), 1);
    }

    private static void testFindings() {
        TinStation x = chain();
        Due.is("no SUSPECT ahead of a hunt", x.test(0, 0), Due.NONE);
        x.hunt();
        Due.is("module 6", x.test(0, 6), Due.BEYOND);
        Due.is("module -1", x.test(0, -1), Due.BEYOND);
        Due.is("hatch 5", x.test(32, 0), Due.BEYOND);
        Due.is("hatches -1", x.test(-1, 0), Due.BEYOND);
        Due.is("hatches min", x.test(Integer.MIN_VALUE, 0), Due.BEYOND);
        Due.is("hatches max", x.test(Integer.MAX_VALUE, 0), Due.BEYOND);
        Due.is("suspects()", x.suspects(), 63);
        Due.is("all of them", x.test(31, 0), 1);
        Due.is("found(1)", x.found(1), 6);
        Due.is("found(2)", x.found(2), 1);
    }

    private static void best() {
        TinStation x = Due.withModules(4);
        x.hatch(0, 1);
        x.hatch(1, 2);
        x.hatch(2, 3);
        x.hunt();
        Due.is("best(0)", x.best(0), 7);
        Due.is("best(1)", x.best(1), 1);
        x.test(4, 0);
        Due.is("of three", x.best(0), 3);
        x.test(1, 1);
        Due.is("of two", x.best(0), 2);
        Due.is("of two", x.best(1), 1);
        Due.is("nothing changes", x.suspects(), 6);
        x.test(2, 1);
        Due.is("of one", x.best(0), 0);
        Due.is("of one", x.best(1), 1);
        TinStation y = Due.withModules(4);
        y.hatch(0, 3);
        y.hatch(3, 1);
        y.hunt();
        y.test(0, 0);
        y.test(2, 3);
        Due.is("SUSPECTS 0, 3", y.suspects(), 9);
        Due.is("the fewest HATCHES", y.best(0), 1);
        TinStation ring = Due.withModules(3);
        ring.hatch(0, 1);
        ring.hatch(1, 2);
        ring.hatch(0, 2);
        ring.hunt();
        Due.is("SUSPECTS 0, 2", ring.test(3, 0), 5);
        Due.is("the one that is less as bits", ring.best(0), 5);
        Due.is("SUSPECT 0", ring.test(7, 0), 1);
        Due.is("nothing to close", ring.best(0), 0);
        Due.is("one at worst", ring.best(1), 1);
        TinStation z = Due.withModules(3);
        z.hatch(0, 1);
        z.hatch(1, 2);
        z.hunt();
        z.hatch(0, 1);
        z.shut(2, 0);
        Due.is("all HATCHES, open or not", z.best(0), 7);
    }

    private static void bestFindings() {
        TinStation x = Due.withModules(2);
        x.hatch(0, 1);
        Due.is("best(0) ahead of a hunt", x.best(0), Due.NONE);
        Due.is("best(2) ahead of a hunt", x.best(2), Due.BEYOND);
        x.hunt();
        Due.is("best(2)", x.best(2), Due.BEYOND);
        Due.is("best(-1)", x.best(-1), Due.BEYOND);
        Due.is("best(0)", x.best(0), 1);
        Due.is("found(1)", x.found(1), 3);
        Due.is("found(2)", x.found(2), 1);
        TinStation y = Due.withModules(2);
        y.hunt();
        Due.is("without HATCHES", y.best(0), 0);
        Due.is("without HATCHES", y.best(1), 1);
    }

    private static void bestOfTheMost() {
        TinStation x = Due.withModules(6);
        for (int h = 0; h < 6; h++) {
            x.hatch(h, (h + 1) % 6);
        }
        x.hatch(0, 3);
        x.hatch(1, 4);
        x.hunt();
        Due.is("best(0)", x.best(0), 255);
        Due.is("best(1)", x.best(1), 1);
        Due.is("the last HATCH", x.test(255, 5), 32);
        TinStation y = Due.withModules(6);
        for (int h = 0; h < 8; h++) {
            y.hatch(0, 1);
        }
        y.hunt();
        Due.is("best(0)", y.best(0), 255);
        y.test(255, 5);
        Due.is("one that is alone", y.best(0), 0);
    }
}
