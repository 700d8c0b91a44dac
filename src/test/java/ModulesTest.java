/** Promises 2 to 8. */
public final class ModulesTest {
    public static void main(String[] args) {
        modules();
        hatches();
        shut();
        gas();
        leak();
        leakSparesHeat();
        tank();
        grams();
        Due.end();
    }

    private static void modules() {
        TinStation x = new TinStation();
        for (int i = 0; i < 6; i++) {
            Due.is("module()", x.module(), i);
            for (int g = 0; g < 5; g++) {
                Due.is("gas at first", x.gas(i, g, -1), 0);
            }
            Due.is("leak at first", x.leak(i, 0), 0);
        }
        Due.is("module() 7th", x.module(), Due.FULL);
        Due.is("count(0)", x.count(0), 6);
        Due.is("found(4)", x.found(4), 1);
    }

    private static void hatches() {
        TinStation x = Due.withModules(2);
        Due.is("hatch(0, 2)", x.hatch(0, 2), Due.BEYOND);
        Due.is("hatch(2, 0)", x.hatch(2, 0), Due.BEYOND);
        Due.is("hatch(-1, 0)", x.hatch(-1, 0), Due.BEYOND);
        Due.is("hatch(0, -1)", x.hatch(0, -1), Due.BEYOND);
        Due.is("hatch(1, 1)", x.hatch(1, 1), Due.BEYOND);
        Due.is("hatch(max, min)", x.hatch(Integer.MAX_VALUE, Integer.MIN_VALUE), Due.BEYOND);
        for (int h = 0; h < 8; h++) {
            Due.is("hatch()", x.hatch(h % 2, 1 - h % 2), h);
            Due.is("open at first", x.shut(h, 1), 1);
        }
        Due.is("hatch() 9th", x.hatch(0, 1), Due.FULL);
        Due.is("hatch() 9th, wrong", x.hatch(0, 0), Due.BEYOND);
        Due.is("count(1)", x.count(1), 8);
        Due.is("found(1)", x.found(1), 7);
        Due.is("found(4)", x.found(4), 1);
    }

    private static void shut() {
        TinStation x = Due.withModules(2);
        Due.is("shut(0, 1) without", x.shut(0, 1), Due.BEYOND);
        x.hatch(0, 1);
        x.gas(0, 3, 100);
        Due.is("shut(0, 0)", x.shut(0, 0), 1);
        Due.is("shut(0, 0) again", x.shut(0, 0), 0);
        x.ticks(1);
        Due.is("closed lets nothing by", x.gas(1, 3, -1), 0);
        Due.is("shut(0, 2)", x.shut(0, 2), Due.BEYOND);
        Due.is("shut(0, -1)", x.shut(0, -1), Due.BEYOND);
        Due.is("shut(1, 0)", x.shut(1, 0), Due.BEYOND);
        Due.is("shut(-1, 0)", x.shut(-1, 0), Due.BEYOND);
        Due.is("shut(0, 1)", x.shut(0, 1), 0);
        x.ticks(1);
        Due.is("open lets a quarter by", x.gas(1, 3, -1), 25);
        Due.is("found(1)", x.found(1), 5);
    }

    private static void gas() {
        TinStation x = Due.withModules(2);
        for (int g = 0; g < 5; g++) {
            Due.is("gas(1, g, 100000)", x.gas(1, g, 100000), 0);
            Due.is("gas(1, g, 7)", x.gas(1, g, 7 + g), 100000);
            Due.is("gas(1, g, -1)", x.gas(1, g, -1), 7 + g);
            Due.is("gas(1, g, 100001)", x.gas(1, g, 100001), Due.BEYOND);
            Due.is("gas(1, g, -2)", x.gas(1, g, -2), Due.BEYOND);
            Due.is("gas(1, g, -1) unchanged", x.gas(1, g, -1), 7 + g);
            Due.is("gas(0, g, -1) another", x.gas(0, g, -1), 0);
            Due.is("gas(1, g, 0)", x.gas(1, g, 0), 7 + g);
            Due.is("gas(1, g, -1)", x.gas(1, g, -1), 0);
        }
        Due.is("gas(2, 0, 0)", x.gas(2, 0, 0), Due.BEYOND);
        Due.is("gas(-1, 0, 0)", x.gas(-1, 0, 0), Due.BEYOND);
        Due.is("gas(0, 5, 0)", x.gas(0, 5, 0), Due.BEYOND);
        Due.is("gas(0, -1, 0)", x.gas(0, -1, 0), Due.BEYOND);
        Due.is("gas(min, max, 0)", x.gas(Integer.MIN_VALUE, Integer.MAX_VALUE, 0), Due.BEYOND);
        Due.is("found(1)", x.found(1), 15);
    }

    private static void leak() {
        TinStation x = Due.withModules(2);
        Due.is("leak(1, 50)", x.leak(1, 50), 0);
        Due.is("leak(1, 51)", x.leak(1, 51), Due.BEYOND);
        Due.is("leak(1, -1)", x.leak(1, -1), Due.BEYOND);
        Due.is("leak(2, 0)", x.leak(2, 0), Due.BEYOND);
        Due.is("leak(-1, 0)", x.leak(-1, 0), Due.BEYOND);
        Due.is("leak(1, 7)", x.leak(1, 7), 50);
        Due.is("leak(0, 0)", x.leak(0, 0), 0);
        x.gas(1, 0, 1000);
        x.gas(1, 1, 142);
        x.gas(1, 2, 143);
        x.gas(1, 3, 100000);
        x.gas(0, 3, 100000);
        x.ticks(1);
        Due.is("OXYGEN left", x.gas(1, 0, -1), 993);
        Due.is("CARBON left", x.gas(1, 1, -1), 142);
        Due.is("VAPOUR left", x.gas(1, 2, -1), 142);
        Due.is("NITROGEN left", x.gas(1, 3, -1), 99300);
        Due.is("no leak there", x.gas(0, 3, -1), 100000);
        Due.is("SPACE", x.tank(4, -1), 7 + 1 + 700);
        Due.is("found(1)", x.found(1), 4);
    }

    private static void leakSparesHeat() {
        TinStation x = Due.withModules(1);
        x.leak(0, 50);
        x.gas(0, 4, 1000);
        x.ticks(1);
        Due.is("HEAT left", x.gas(0, 4, -1), 1000);
        Due.is("SPACE's heat", x.tank(5, -1), 0);
        x.leak(0, 1);
        x.gas(0, 0, 999);
        x.ticks(1);
        Due.is("less than one gram", x.tank(4, -1), 0);
    }

    private static void tank() {
        TinStation x = new TinStation();
        for (int t = 0; t < 6; t++) {
            Due.is("tank(t, 1000000)", x.tank(t, 1000000), 0);
            Due.is("tank(t, 1000001)", x.tank(t, 1000001), Due.BEYOND);
            Due.is("tank(t, -2)", x.tank(t, -2), Due.BEYOND);
            Due.is("tank(t, -1)", x.tank(t, -1), 1000000);
            Due.is("tank(t, 3 + t)", x.tank(t, 3 + t), 1000000);
            Due.is("tank(t, -1)", x.tank(t, -1), 3 + t);
        }
        Due.is("tank(6, 0)", x.tank(6, 0), Due.BEYOND);
        Due.is("tank(-1, 0)", x.tank(-1, 0), Due.BEYOND);
        for (int t = 0; t < 6; t++) {
            Due.is("tank(t, 0)", x.tank(t, 0), 3 + t);
            Due.is("tank(t, -1)", x.tank(t, -1), 0);
        }
        Due.is("found(1)", x.found(1), 14);
    }

    private static void grams() {
        TinStation x = Due.withModules(6);
        int sum = 0;
        int next = 1;
        for (int m = 0; m < 6; m++) {
            for (int g = 0; g < 4; g++) {
                x.gas(m, g, next);
                sum += next;
                next += next % 5 + 1;
                Due.is("grams() with gas", x.grams(), sum);
            }
            x.gas(m, 4, 99999);
        }
        for (int t = 0; t < 5; t++) {
            x.tank(t, 1000 + t);
            sum += 1000 + t;
            Due.is("grams() with tank", x.grams(), sum);
        }
        x.tank(5, 77777);
        Due.is("grams() without heat", x.grams(), sum);
    }
}
