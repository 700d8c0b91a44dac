import java.util.function.Supplier;

/** Two stations of one kind: one is asked for what it refuses, and must stay like the other. */
final class Twins {
    interface Act {
        int on(TinStation x);
    }

    private static final int[] WHEN = {0, 1, 2, 3, 4, 5, 6, 7, 8, 9, 50, 100, 3000, 3100, 4000};

    private Twins() {
    }

    /** The call answers the finding; found() tells of it; else it is as if it had never been. */
    static void refused(String call, Supplier<TinStation> made, Act act, int finding) {
        TinStation x = made.get();
        int[] was = new int[6];
        for (int k = 1; k <= 5; k++) {
            was[k] = x.found(k);
        }
        Due.is(call, act.on(x), finding);
        for (int k = 1; k <= 5; k++) {
            int due = was[k] + (Due.LOW - k == finding ? 1 : 0);
            Due.is("found(" + k + ") behind " + call, x.found(k), due);
        }
        alike("behind " + call, x, made.get());
    }

    /** Numbers far beyond are refused as those that are just beyond. */
    static int[] far(int... near) {
        int[] all = java.util.Arrays.copyOf(near, near.length + 2);
        all[near.length] = Integer.MAX_VALUE;
        all[near.length + 1] = Integer.MIN_VALUE;
        return all;
    }

    /** Both show the same now, and whatever is done with them. They can't be used any more then. */
    static void alike(String when, TinStation x, TinStation y) {
        Due.same("what is seen " + when, Due.seen(x), Due.seen(y));
        Due.same("what is hidden " + when, hidden(x), hidden(y));
        Due.same("what comes " + when, comes(x), comes(y));
    }

    private static String hidden(TinStation x) {
        StringBuilder s = new StringBuilder("hatches");
        for (int h = 0; h < x.count(1); h++) {
            int was = x.shut(h, 1);
            x.shut(h, was);
            s.append(' ').append(was);
        }
        s.append(" leaks");
        for (int m = 0; m < x.count(0); m++) {
            int was = x.leak(m, 0);
            x.leak(m, was);
            s.append(' ').append(was);
        }
        int lag = x.delay(0);
        x.delay(lag);
        s.append(" delay ").append(lag).append(" store ").append(store(x)).append(" known");
        for (int sensor = 0; sensor < 4; sensor++) {
            for (int t : WHEN) {
                s.append(' ').append(x.known(sensor, t));
            }
        }
        s.append(" shed ").append(x.shed(15, 0)).append(" best ").append(x.best(0));
        return s.append(" numbers ").append(x.check(0, 0)).toString();
    }

    private static int store(TinStation x) {
        int was = x.battery(-1);
        int least = 0;
        int most = 5000;
        while (least < most) {
            int half = (least + most + 1) / 2;
            if (x.battery(half) < Due.LOW) {
                most = half - 1;
            } else {
                least = half;
            }
        }
        x.battery(was);
        return least;
    }

    private static String comes(TinStation x) {
        StringBuilder s = new StringBuilder();
        s.append(x.ahead(200));
        for (int t = 0; t < 12; t++) {
            s.append("\n  ").append(x.ticks(1)).append(' ').append(Due.seen(x));
        }
        if (x.text(0) == 1) {
            s.append(x.abort()).append(x.ticks(1)).append(x.abort());
        }
        x.begin();
        for (int t = 0; t < 12; t++) {
            x.ticks(1);
            s.append("\n  text ").append(x.text(1)).append(' ').append(Due.seen(x));
        }
        return s.append("\n  bounds ").append(bounds(x)).toString();
    }

    /** Where somebody is, each amount is halved until the look ahead tells where a bound is. */
    private static String bounds(TinStation x) {
        if (x.count(2) == 0) {
            return "nobody";
        }
        int m = x.about(0, 0);
        StringBuilder s = new StringBuilder();
        int[] sorts = {0, 1, 4};
        int[] well = {100000, 0, 0};
        for (int i = 0; i < 3; i++) {
            int least = 0;
            int most = 100000;
            for (int n = 0; n < 17; n++) {
                for (int k = 0; k < 3; k++) {
                    x.gas(m, sorts[k], k == i ? (least + most) / 2 : well[k]);
                }
                boolean breaks = x.ahead(1) == 1;
                if (breaks == (i == 0)) {
                    least = (least + most) / 2;
                } else {
                    most = (least + most) / 2;
                }
            }
            s.append(least).append(' ');
        }
        return s.toString();
    }
}
