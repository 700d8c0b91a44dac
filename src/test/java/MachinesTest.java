/** Promises 13 to 19. */
public final class MachinesTest {
    public static void main(String[] args) {
        machines();
        wrongMachines();
        kinds();
        turning();
        tellingOf();
        spares();
        repairFindings();
        repairing();
        repairsOfSeveral();
        shedding();
        sheddingTies();
        sheddingEdges();
        work();
        workInOrder();
        wearing();
        Due.end();
    }

    private static void machines() {
        TinStation x = Due.withModules(2);
        for (int i = 0; i < 10; i++) {
            Due.is("machine()", x.machine(i % 6, i % 2, Due.use(10 * i, 100 - i, i), 1000 - i), i);
        }
        for (int i = 0; i < 10; i++) {
            int[] due = {i % 6, i % 2, 100 - i, i, 0, 1, 0, 0, 1000 - i};
            for (int what = 0; what < 9; what++) {
                Due.is("of(" + i + ", " + what + ")", x.of(i, what), due[what]);
            }
            Due.is("as(" + i + ", 0)", x.as(i, 0), 10 * i);
        }
        Due.is("machine() 11th", x.machine(0, 0, 0, 1), Due.FULL);
        Due.is("machine() 11th, wrong", x.machine(0, 0, 0, 0), Due.BEYOND);
        Due.is("count(3)", x.count(3), 10);
        Due.is("found(4)", x.found(4), 1);
        Due.is("found(1)", x.found(1), 1);
    }

    private static void wrongMachines() {
        TinStation x = Due.withModules(1);
        Due.is("kind 6", x.machine(6, 0, 0, 1), Due.BEYOND);
        Due.is("kind -1", x.machine(-1, 0, 0, 1), Due.BEYOND);
        Due.is("module 1", x.machine(0, 1, 0, 1), Due.BEYOND);
        Due.is("module -1", x.machine(0, -1, 0, 1), Due.BEYOND);
        Due.is("life 0", x.machine(0, 0, 0, 0), Due.BEYOND);
        Due.is("life 1001", x.machine(0, 0, 0, 1001), Due.BEYOND);
        Due.is("rate 101", x.machine(0, 0, Due.use(101, 0, 0), 1), Due.BEYOND);
        Due.is("power 101", x.machine(0, 0, Due.use(0, 101, 0), 1), Due.BEYOND);
        Due.is("harm 101", x.machine(0, 0, Due.use(0, 0, 101), 1), Due.BEYOND);
        Due.is("power 999", x.machine(0, 0, Due.use(5, 999, 0), 1), Due.BEYOND);
        Due.is("use -1", x.machine(0, 0, -1, 1), Due.BEYOND);
        Due.is("use max", x.machine(0, 0, Integer.MAX_VALUE, 1), Due.BEYOND);
        Due.is("use min", x.machine(0, 0, Integer.MIN_VALUE, 1), Due.BEYOND);
        Due.is("use -1000000", x.machine(0, 0, -1000000, 1), Due.BEYOND);
        Due.is("count(3)", x.count(3), 0);
        Due.is("found(1)", x.found(1), 14);
        Due.is("the most of all", x.machine(5, 0, Due.use(100, 100, 100), 1000), 0);
        Due.is("the least of all", x.machine(0, 0, 0, 1), 1);
    }

    private static void kinds() {
        TinStation x = Due.withModules(1);
        for (int k = 0; k < 6; k++) {
            x.machine(k, 0, Due.use(20 + k, 0, 0), 1);
        }
        for (int i = 0; i < 6; i++) {
            for (int k = 0; k < 6; k++) {
                boolean is = k == 0 || k == i || k == 3 && i == 4;
                Due.is("as(" + i + ", " + k + ")", x.as(i, k), is ? 20 + i : Due.KIND);
            }
        }
        Due.is("as(6, 0)", x.as(6, 0), Due.BEYOND);
        Due.is("as(-1, 0)", x.as(-1, 0), Due.BEYOND);
        Due.is("as(0, 6)", x.as(0, 6), Due.BEYOND);
        Due.is("as(0, -1)", x.as(0, -1), Due.BEYOND);
        Due.is("found(1)", x.found(1), 4);
        Due.is("found(5)", x.found(5), 36 - 6 - 5 - 1);
    }

    private static void turning() {
        TinStation x = Due.withModules(1);
        x.machine(0, 0, 0, 5);
        x.machine(0, 0, 0, 5);
        Due.is("turn(0, 0)", x.turn(0, 0), 1);
        Due.is("turn(0, 0) again", x.turn(0, 0), 0);
        Due.is("turn(0, 2)", x.turn(0, 2), Due.BEYOND);
        Due.is("turn(0, -1)", x.turn(0, -1), Due.BEYOND);
        Due.is("turn(2, 0)", x.turn(2, 0), Due.BEYOND);
        Due.is("turn(-1, 0)", x.turn(-1, 0), Due.BEYOND);
        Due.is("of(0, 5)", x.of(0, 5), 0);
        x.ticks(1);
        Due.is("off: RAN", x.of(0, 7), 0);
        Due.is("on: RAN", x.of(1, 7), 1);
        x.turn(1, 0);
        Due.is("RAN in the latest TICK", x.of(1, 7), 1);
        Due.is("turn(0, 1)", x.turn(0, 1), 0);
        x.ticks(1);
        Due.is("on: RAN", x.of(0, 7), 1);
        Due.is("off: RAN no more", x.of(1, 7), 0);
        Due.is("WEAR", x.of(1, 4), 1);
        Due.is("found(1)", x.found(1), 4);
    }

    private static void tellingOf() {
        TinStation x = Due.withModules(1);
        Due.is("of(0, 0) without", x.of(0, 0), Due.BEYOND);
        x.machine(0, 0, 0, 5);
        Due.is("of(0, 9)", x.of(0, 9), Due.BEYOND);
        Due.is("of(0, -1)", x.of(0, -1), Due.BEYOND);
        Due.is("of(-1, 0)", x.of(-1, 0), Due.BEYOND);
        Due.is("of(1, 0)", x.of(1, 0), Due.BEYOND);
        Due.is("found(1)", x.found(1), 5);
    }

    private static void spares() {
        TinStation x = new TinStation();
        for (int k = 0; k < 6; k++) {
            Due.is("spares(k, 20)", x.spares(k, 20), 0);
            Due.is("spares(k, k)", x.spares(k, k), 20);
            Due.is("spares(k, 21)", x.spares(k, 21), Due.BEYOND);
            Due.is("spares(k, -2)", x.spares(k, -2), Due.BEYOND);
        }
        for (int k = 0; k < 6; k++) {
            Due.is("spares(k, -1)", x.spares(k, -1), k);
        }
        Due.is("spares(6, 0)", x.spares(6, 0), Due.BEYOND);
        Due.is("spares(-1, 0)", x.spares(-1, 0), Due.BEYOND);
        Due.is("spares(5, 0)", x.spares(5, 0), 5);
        Due.is("spares(5, -1)", x.spares(5, -1), 0);
        Due.is("found(1)", x.found(1), 14);
    }

    private static void repairFindings() {
        TinStation x = Due.withModules(2);
        x.person(0);
        x.person(0);
        x.person(1);
        x.machine(4, 0, 0, 1);
        x.machine(3, 0, 0, 1);
        x.machine(0, 0, 0, 9);
        x.spares(3, 1);
        x.ticks(1);
        Due.is("no such person", x.repair(3, 0, 1), Due.BEYOND);
        Due.is("no such person -1", x.repair(-1, 0, 1), Due.BEYOND);
        Due.is("no such machine", x.repair(0, 3, 1), Due.BEYOND);
        Due.is("no such machine -1", x.repair(0, -1, 1), Due.BEYOND);
        Due.is("hours 0", x.repair(0, 0, 0), Due.BEYOND);
        Due.is("hours 61", x.repair(0, 0, 61), Due.BEYOND);
        Due.is("no FAULT", x.repair(0, 2, 1), Due.STATE);
        Due.is("elsewhere", x.repair(2, 1, 1), Due.STATE);
        Due.is("no SPARE of that KIND", x.repair(0, 0, 1), Due.NONE);
        x.spares(4, 20);
        Due.is("repair(0, 0, 60)", x.repair(0, 0, 60), 19);
        Due.is("REPAIRED already", x.repair(1, 0, 1), Due.STATE);
        Due.is("who REPAIRS", x.repair(0, 1, 1), Due.STATE);
        Due.is("repair(1, 1, 1)", x.repair(1, 1, 1), 0);
        Due.is("spares(4, -1)", x.spares(4, -1), 19);
        Due.is("count(9)", x.count(9), 2);
        Due.is("found(1)", x.found(1), 6);
        Due.is("found(2)", x.found(2), 1);
        Due.is("found(3)", x.found(3), 4);
    }

    private static void repairing() {
        TinStation x = Due.withModules(2);
        x.hatch(0, 1);
        x.person(0);
        x.machine(0, 0, 0, 2);
        x.spares(0, 20);
        x.ticks(2);
        Due.is("FAULT", x.of(0, 6), 1);
        Due.is("WEAR", x.of(0, 4), 2);
        x.doing(0, 2);
        x.gas(0, 0, 1000);
        Due.is("repair(0, 0, 3)", x.repair(0, 0, 3), 19);
        Due.is("DOING", x.about(0, 1), 1);
        Due.is("go()", x.go(0, 1), Due.STATE);
        Due.is("doing()", x.doing(0, 0), Due.STATE);
        x.shut(0, 0);
        for (int left = 2; left > 0; left--) {
            x.ticks(1);
            Due.is("TICKS yet", x.about(0, 3), left);
            Due.is("the MACHINE", x.about(0, 2), 0);
            Due.is("FAULT yet", x.of(0, 6), 1);
            Due.is("RAN", x.of(0, 7), 0);
        }
        Due.is("breathes as one who works", x.gas(0, 0, -1), 1000 - 2 * 6);
        x.ticks(1);
        Due.is("free", x.about(0, 2), -1);
        Due.is("TICKS yet", x.about(0, 3), 0);
        Due.is("DOING stays", x.about(0, 1), 1);
        Due.is("FAULT gone", x.of(0, 6), 0);
        Due.is("WEAR", x.of(0, 4), 1);
        Due.is("RAN in that TICK", x.of(0, 7), 1);
        Due.is("count(9)", x.count(9), 0);
        Due.is("doing()", x.doing(0, 0), 1);
        x.shut(0, 1);
        Due.is("go()", x.go(0, 1), 1);
    }

    private static void repairsOfSeveral() {
        TinStation x = Due.withModules(1);
        x.person(0);
        x.person(0);
        x.machine(1, 0, 0, 1);
        x.machine(1, 0, 0, 1);
        x.spares(1, 2);
        x.ticks(1);
        x.turn(0, 0);
        x.turn(1, 0);
        Due.is("repair(1, 0, 1)", x.repair(1, 0, 1), 1);
        Due.is("repair(0, 1, 2)", x.repair(0, 1, 2), 0);
        x.ticks(1);
        Due.is("FAULT of 0", x.of(0, 6), 0);
        Due.is("WEAR of 0", x.of(0, 4), 0);
        Due.is("FAULT of 1", x.of(1, 6), 1);
        Due.is("WEAR of 1", x.of(1, 4), 1);
        Due.is("who REPAIRS", x.count(9), 1);
        x.ticks(1);
        Due.is("FAULT of 1", x.of(1, 6), 0);
        Due.is("who REPAIRS", x.count(9), 0);
    }

    private static void shedding() {
        TinStation x = Due.withModules(1);
        x.machine(0, 0, Due.use(0, 40, 5), 9);
        x.machine(0, 0, Due.use(0, 30, 4), 9);
        x.machine(0, 0, Due.use(0, 20, 3), 9);
        x.machine(0, 0, Due.use(0, 10, 9), 9);
        int[] power = {1000, 100, 99, 90, 80, 70, 60, 50, 40, 10, 9, 0};
        int[] bits = {0, 0, 4, 4, 4, 2, 1, 6, 5, 7, 15, 15};
        int[] harm = {0, 0, 3, 3, 3, 4, 5, 7, 8, 12, 21, 21};
        int[] rest = {100, 100, 80, 80, 80, 70, 60, 50, 40, 10, 0, 0};
        for (int i = 0; i < power.length; i++) {
            Due.is("shed(" + power[i] + ", 0)", x.shed(power[i], 0), bits[i]);
            Due.is("shed(" + power[i] + ", 1)", x.shed(power[i], 1), harm[i]);
            Due.is("shed(" + power[i] + ", 2)", x.shed(power[i], 2), rest[i]);
        }
        x.turn(2, 0);
        Due.is("off: not shed", x.shed(70, 0), 2);
        Due.is("off: not of the others", x.shed(1000, 2), 80);
        Due.is("all nevertheless on", x.of(1, 5), 1);
    }

    private static void sheddingTies() {
        TinStation x = Due.withModules(1);
        x.machine(0, 0, Due.use(0, 20, 2), 9);
        x.machine(0, 0, Due.use(0, 20, 2), 9);
        x.machine(0, 0, Due.use(0, 40, 4), 9);
        Due.is("the fewest", x.shed(40, 0), 4);
        Due.is("less as bits", x.shed(60, 0), 1);
        TinStation y = Due.withModules(1);
        y.machine(0, 0, Due.use(0, 20, 0), 9);
        y.machine(0, 0, Due.use(0, 0, 0), 9);
        y.machine(0, 0, Due.use(0, 20, 0), 1);
        Due.is("no more than must be", y.shed(20, 0), 1);
        y.ticks(1);
        Due.is("without a FAULT: one", y.shed(0, 0), 4 + 1);
        y.battery(40);
        y.ticks(1);
        Due.is("with a FAULT: not", y.shed(0, 0), 1);
    }

    private static void sheddingEdges() {
        TinStation x = Due.withModules(1);
        Due.is("shed(0, 0) without", x.shed(0, 0), 0);
        Due.is("shed(0, 1) without", x.shed(0, 1), 0);
        Due.is("shed(0, 2) without", x.shed(0, 2), 0);
        for (int i = 0; i < 10; i++) {
            x.machine(0, 0, Due.use(0, 100, 100), 9);
        }
        Due.is("shed(1000, 0)", x.shed(1000, 0), 0);
        Due.is("shed(999, 0)", x.shed(999, 0), 1);
        Due.is("shed(0, 0)", x.shed(0, 0), 1023);
        Due.is("shed(0, 1)", x.shed(0, 1), 1000);
        Due.is("shed(1000, 2)", x.shed(1000, 2), 1000);
        Due.is("shed(1001, 0)", x.shed(1001, 0), Due.BEYOND);
        Due.is("shed(-1, 0)", x.shed(-1, 0), Due.BEYOND);
        Due.is("shed(0, 3)", x.shed(0, 3), Due.BEYOND);
        Due.is("shed(0, -1)", x.shed(0, -1), Due.BEYOND);
        Due.is("found(1)", x.found(1), 4);
    }

    private static void work() {
        TinStation x = Due.withModules(2);
        for (int g = 0; g < 5; g++) {
            x.gas(1, g, 1000);
        }
        for (int t = 0; t < 6; t++) {
            x.tank(t, 1000);
        }
        for (int k = 0; k < 6; k++) {
            x.machine(k, 1, Due.use(10 + k, 0, 0), 9);
            x.turn(k, 0);
        }
        int[][] gas = {{0, 0, 0, 0, 2}, {0, -11, 0, 0, 2}, {10, 0, 0, 0, 2}, {0, 0, -13, 0, 2},
            {0, 0, 0, 0, 2}, {0, 0, 0, 0, 2 - 150}};
        int[][] tank = {{0, 0, 0, 0, 0, 0}, {0, 0, 0, 11, 0, 0}, {-12, 0, 0, 0, 2, 0},
            {13, 0, 0, 0, 0, 0}, {10, -14, 4, 0, 0, 0}, {0, 0, 0, 0, 0, 150}};
        for (int k = 0; k < 6; k++) {
            x.turn(k, 1);
            x.ticks(1);
            x.turn(k, 0);
            for (int g = 0; g < 5; g++) {
                Due.is("KIND " + k + ", GAS " + g, x.gas(1, g, 1000), 1000 + gas[k][g]);
                Due.is("KIND " + k + ", elsewhere", x.gas(0, g, -1), 0);
            }
            for (int t = 0; t < 6; t++) {
                Due.is("KIND " + k + ", TANK " + t, x.tank(t, 1000), 1000 + tank[k][t]);
            }
        }
        workOnLittle();
    }

    private static void workOnLittle() {
        TinStation x = Due.withModules(1);
        for (int k = 1; k < 6; k++) {
            x.machine(k, 0, Due.use(100, 0, 0), 9);
        }
        x.gas(0, 1, 3);
        x.gas(0, 2, 5);
        x.tank(0, 10);
        x.tank(1, 7);
        x.ticks(1);
        Due.is("CARBON", x.gas(0, 1, -1), 0);
        Due.is("COAL", x.tank(3, -1), 3);
        Due.is("OXYGEN", x.gas(0, 0, -1), 8);
        Due.is("SPACE", x.tank(4, -1), 2);
        Due.is("VAPOUR", x.gas(0, 2, -1), 0);
        Due.is("WATER", x.tank(0, -1), 5 + 5);
        Due.is("WASTE", x.tank(1, -1), 0);
        Due.is("BRINE", x.tank(2, -1), 2);
        Due.is("HEAT of the four ahead is taken", x.tank(5, -1), 8);
        Due.is("HEAT", x.gas(0, 4, -1), 2);
        Due.is("grams()", x.grams(), 25);
    }

    private static void workInOrder() {
        TinStation x = Due.withModules(1);
        x.machine(2, 0, Due.use(9, 0, 0), 9);
        x.machine(3, 0, Due.use(100, 0, 0), 9);
        x.gas(0, 2, 50);
        x.ticks(1);
        Due.is("no WATER yet for the first", x.gas(0, 0, -1), 0);
        Due.is("WATER by the second", x.tank(0, -1), 50);
        x.person(0);
        x.ticks(1);
        Due.is("MACHINES ahead of PEOPLE: OXYGEN", x.gas(0, 0, -1), 8 - 4);
        Due.is("VAPOUR of this TICK stays", x.gas(0, 2, -1), 4);
    }

    private static void wearing() {
        TinStation x = Due.withModules(1);
        x.machine(1, 0, Due.use(10, 0, 0), 3);
        x.gas(0, 1, 1000);
        for (int t = 1; t <= 3; t++) {
            Due.is("FAULT", x.of(0, 6), 0);
            x.ticks(1);
            Due.is("WEAR", x.of(0, 4), t);
        }
        Due.is("FAULT", x.of(0, 6), 1);
        Due.is("RAN", x.of(0, 7), 1);
        x.ticks(1);
        Due.is("RAN no more", x.of(0, 7), 0);
        Due.is("WEAR stays", x.of(0, 4), 3);
        Due.is("COAL", x.tank(3, -1), 30);
        Due.is("HEAT", x.gas(0, 4, -1), 6);
        Due.is("ON", x.of(0, 5), 1);
        x.turn(0, 0);
        x.turn(0, 1);
        x.ticks(1);
        Due.is("a FAULT isn't switched away", x.of(0, 7), 0);
    }
}
