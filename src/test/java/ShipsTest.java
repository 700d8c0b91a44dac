/** Promises 41 to 43. */
public final class ShipsTest {
    public static void main(String[] args) {
        mass();
        dock();
        dockFindings();
        undock();
        Due.end();
    }

    private static void mass() {
        TinStation x = new TinStation();
        Due.is("mass(0, 1)", x.mass(0, 1), 400000);
        Due.is("mass(0, 10000000)", x.mass(0, 10000000), 1);
        Due.is("mass(0, LOW)", x.mass(0, Due.LOW), 10000000);
        Due.is("mass(0, 0)", x.mass(0, 0), Due.BEYOND);
        Due.is("mass(0, 10000001)", x.mass(0, 10000001), Due.BEYOND);
        Due.is("mass(0, -1)", x.mass(0, -1), Due.BEYOND);
        Due.is("mass(0, LOW + 1)", x.mass(0, Due.LOW + 1), Due.BEYOND);
        Due.is("mass(0, LOW) unchanged", x.mass(0, Due.LOW), 10000000);
        Due.is("mass(1, 1000)", x.mass(1, 1000), 0);
        Due.is("mass(1, -1000)", x.mass(1, -1000), 1000);
        Due.is("mass(1, 1001)", x.mass(1, 1001), Due.BEYOND);
        Due.is("mass(1, -1001)", x.mass(1, -1001), Due.BEYOND);
        Due.is("mass(1, LOW - 1)", x.mass(1, Due.LOW - 1), Due.BEYOND);
        Due.is("mass(1, LOW)", x.mass(1, Due.LOW), -1000);
        Due.is("mass(1, -1)", x.mass(1, -1), -1000);
        Due.is("mass(1, 0)", x.mass(1, 0), -1);
        Due.is("mass(2, 5)", x.mass(2, 5), Due.BEYOND);
        Due.is("mass(-1, 5)", x.mass(-1, 5), Due.BEYOND);
        Due.is("mass(2, LOW)", x.mass(2, Due.LOW), Due.BEYOND);
        Due.is("found(1)", x.found(1), 10);
    }

    private static void dock() {
        TinStation x = new TinStation();
        x.mass(0, 5000000);
        x.mass(1, 1000);
        Due.is("the heaviest", x.dock(5000000, 999), 999);
        Due.is("MASS", x.mass(0, Due.LOW), 10000000);
        x.mass(0, 1);
        x.mass(1, 0);
        Due.is("cut", x.dock(9999999, -1000), -999);
        Due.is("MASS", x.mass(0, Due.LOW), 10000000);
        x.mass(0, 3);
        x.mass(1, -2);
        Due.is("-6 and 1 by 4, cut", x.dock(1, 1), -1);
        x.mass(0, 3);
        x.mass(1, 0);
        Due.is("-3 by 4, cut", x.dock(1, -3), 0);
        Due.is("MASS", x.mass(0, Due.LOW), 4);
        Due.is("SPEED", x.mass(1, Due.LOW), 0);
    }

    private static void dockFindings() {
        TinStation x = new TinStation();
        x.mass(0, 5);
        x.mass(1, 7);
        Due.is("mass 0", x.dock(0, 0), Due.BEYOND);
        Due.is("mass 10000001", x.dock(10000001, 0), Due.BEYOND);
        Due.is("mass min", x.dock(Integer.MIN_VALUE, 0), Due.BEYOND);
        Due.is("speed 1001", x.dock(1, 1001), Due.BEYOND);
        Due.is("speed -1001", x.dock(1, -1001), Due.BEYOND);
        Due.is("too heavy", x.dock(9999996, 1), Due.STATE);
        Due.is("too heavy, the most", x.dock(10000000, 1), Due.STATE);
        Due.is("MASS unchanged", x.mass(0, Due.LOW), 5);
        Due.is("SPEED unchanged", x.mass(1, Due.LOW), 7);
        Due.is("just not too heavy", x.dock(9999995, 7), 7);
        Due.is("found(1)", x.found(1), 5);
        Due.is("found(3)", x.found(3), 2);
    }

    private static void undock() {
        TinStation x = new TinStation();
        x.mass(1, 7);
        Due.is("mass 0", x.undock(0), Due.BEYOND);
        Due.is("mass -1", x.undock(-1), Due.BEYOND);
        Due.is("mass 10000001", x.undock(10000001), Due.BEYOND);
        Due.is("all", x.undock(400000), Due.STATE);
        Due.is("more than all", x.undock(10000000), Due.STATE);
        Due.is("undock(1)", x.undock(1), 399999);
        Due.is("all but 1", x.undock(399998), 1);
        Due.is("MASS", x.mass(0, Due.LOW), 1);
        Due.is("SPEED stays", x.mass(1, Due.LOW), 7);
        Due.is("found(1)", x.found(1), 3);
        Due.is("found(3)", x.found(3), 2);
    }
}
