/** Promise 1. */
public final class NewObjectTest {
    public static void main(String[] args) {
        TinStation x = new TinStation();
        for (int what = 0; what < 10; what++) {
            Due.is("count(" + what + ")", x.count(what), 0);
        }
        for (int t = 0; t < 6; t++) {
            Due.is("tank(" + t + ", -1)", x.tank(t, -1), 0);
            Due.is("spares(" + t + ", -1)", x.spares(t, -1), 0);
        }
        for (int k = 1; k <= 5; k++) {
            Due.is("found(" + k + ")", x.found(k), 0);
        }
        Due.is("grams()", x.grams(), 0);
        Due.is("battery(-1)", x.battery(-1), 0);
        Due.is("battery(1000)", x.battery(1000), 0);
        Due.is("battery(1001)", x.battery(1001), Due.BEYOND);
        Due.is("suspects()", x.suspects(), 0);
        Due.is("delay(5)", x.delay(5), 5);
        Due.is("mass(0)", x.mass(0, Due.LOW), 400000);
        Due.is("mass(1)", x.mass(1, Due.LOW), 0);
        int[] text = {0, -1, 0, 0, -1, 0, 0};
        for (int what = 0; what < text.length; what++) {
            Due.is("text(" + what + ")", x.text(what), text[what]);
        }
        twoDoNotShare();
        Due.end();
    }

    private static void twoDoNotShare() {
        TinStation a = new TinStation();
        TinStation b = new TinStation();
        a.module();
        a.tank(0, 7);
        a.line(0, 0, 0, 0);
        a.ticks(1);
        Due.is("count(0) of another", b.count(0), 0);
        Due.is("count(4) of another", b.count(4), 0);
        Due.is("count(5) of another", b.count(5), 0);
        Due.is("tank(0, -1) of another", b.tank(0, -1), 0);
    }
}
