/** What the tests share: the findings, and a tally of answers that are not as due. */
final class Due {
    static final int LOW = -1000000000;
    static final int BEYOND = LOW - 1;
    static final int NONE = LOW - 2;
    static final int STATE = LOW - 3;
    static final int FULL = LOW - 4;
    static final int KIND = LOW - 5;

    /** The sentence of the document that is being held, for what is printed. */
    static String sentence = "";

    private static int asked;
    private static int wrong;

    private Due() {
    }

    static void is(String call, long got, long want) {
        asked++;
        if (got != want) {
            wrong++;
            if (wrong <= 50) {
                System.out.println(sentence + call + " answered " + got + ", due is " + want);
            }
        }
    }

    static void same(String what, String got, String want) {
        asked++;
        if (!got.equals(want)) {
            wrong++;
            if (wrong <= 50) {
                System.out.println(sentence + what + ":\n  is  " + got + "\n  due " + want);
            }
        }
    }

    static void end() {
        System.out.println(asked + " answers asked, " + wrong + " not as due");
        if (wrong != 0 || asked == 0) {
            System.exit(1);
        }
    }

    static int use(int rate, int power, int harm) {
        return rate * 1000000 + power * 1000 + harm;
    }

    static TinStation withModules(int n) {
        TinStation x = new TinStation();
        for (int i = 0; i < n; i++) {
            x.module();
        }
        return x;
    }

    /** Goes on by more ticks than one call may. */
    static void pass(TinStation x, int n) {
        for (int left = n; left > 0; left -= 100) {
            x.ticks(Math.min(left, 100));
        }
    }

    /** All that can be seen without changing anything but found(). */
    static String seen(TinStation x) {
        StringBuilder s = new StringBuilder();
        for (int i = 0; i < 10; i++) {
            s.append(x.count(i)).append(' ');
        }
        s.append("| ");
        for (int m = 0; m < x.count(0); m++) {
            for (int g = 0; g < 5; g++) {
                s.append(x.gas(m, g, -1)).append(' ');
            }
        }
        s.append("| ");
        for (int t = 0; t < 6; t++) {
            s.append(x.tank(t, -1)).append(' ').append(x.spares(t, -1)).append(' ');
        }
        s.append("| ");
        for (int p = 0; p < x.count(2); p++) {
            for (int i = 0; i < 6; i++) {
                s.append(x.about(p, i)).append(' ');
            }
        }
        s.append("| ");
        for (int m = 0; m < x.count(3); m++) {
            s.append(x.as(m, 0)).append(' ');
            for (int i = 0; i < 9; i++) {
                s.append(x.of(m, i)).append(' ');
            }
        }
        s.append("| ").append(x.battery(-1)).append(' ');
        s.append(x.broke(0)).append(' ').append(x.broke(1)).append(' ');
        for (int i = 0; i < 7; i++) {
            s.append(x.text(i)).append(' ');
        }
        s.append("| ").append(x.suspects()).append(' ');
        for (int r = 0; r < x.count(6); r++) {
            s.append(x.worked(r)).append(' ');
        }
        s.append("| ").append(x.mass(0, LOW)).append(' ').append(x.mass(1, LOW));
        return s.toString();
    }
}
