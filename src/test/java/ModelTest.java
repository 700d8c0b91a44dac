import java.lang.reflect.Method;
import java.util.LinkedHashMap;
import java.util.Map;
import java.util.Random;

/** All promises: runs of up to 512 calls, each answer held against the Model's. */
public final class ModelTest {
    private static final int RUNS = 240;

    /** Of each call: how often, and of what sort each number is (see number()). */
    private static final String[] CALLS = {
        "module 6", "hatch 8 m m", "shut 10 h 2", "gas 20 m g V", "leak 5 m l", "tank 12 t W",
        "grams 6", "person 6 m", "go 12 p m", "doing 10 p 3", "about 12 p 6",
        "machine 9 k m U L", "as 6 i k", "turn 8 i 2", "of 16 i 9", "spares 8 k s",
        "repair 16 p i r", "shed 6 P 3", "sun 5 S B", "battery 8 B", "bounds 4 o o o", "ticks 34 T",
        "broke 4 2", "ahead 3 A", "line 30 O a b c", "erase 3", "begin 12", "halt 5 2", "abort 3",
        "text 24 7", "hunt 5", "test 6 H m", "best 2 2", "suspects 4", "read 5 4 R",
        "calibrate 4 4 C", "worked 8 40", "delay 3 101", "known 8 4 K", "mass 4 2 M", "dock 3 N X",
        "undock 2 N", "tell 6 V", "check 1 m g", "count 14 10", "found 12 F"};

    private static Random dice;
    private static int most;

    public static void main(String[] args) throws Exception {
        Map<String, Method> face = new LinkedHashMap<>();
        for (Method m : TinStation.class.getMethods()) {
            face.put(m.getName(), m);
        }
        int weights = 0;
        for (String c : CALLS) {
            weights += Integer.parseInt(c.split(" ")[1]);
        }
        for (int run = 0; run < RUNS; run++) {
            dice = new Random(run);
            most = run % 4 == 0 ? 100 : run % 4 == 1 ? 3 : 12;
            run(run, face, weights);
        }
        Due.end();
    }

    private static void run(int run, Map<String, Method> face, int weights) throws Exception {
        TinStation x = new TinStation();
        Model model = new Model();
        for (int n = 0; n < 512; n++) {
            String[] call = pick(n, weights);
            int[] v = new int[call.length - 2];
            Integer[] boxed = new Integer[v.length];
            for (int i = 0; i < v.length; i++) {
                v[i] = dice.nextInt(40) == 0 ? wild() : number(call[i + 2], x);
                boxed[i] = v[i];
            }
            int due = model.call(call[0], v);
            int got = (Integer) face.get(call[0]).invoke(x, (Object[]) boxed);
            StringBuilder told = new StringBuilder("run " + run + ", call " + n + ": " + call[0]);
            for (int i : v) {
                told.append(' ').append(i);
            }
            Due.is(told.toString(), got, due);
            if (got != due) {
                return;
            }
            if (n == 400 && model.call("count", new int[] {0}) > 0) {
                checkTrueNumbers(x, model);
            }
        }
    }

    private static void checkTrueNumbers(TinStation x, Model model) {
        Due.is("none wait", x.check(0, 0), model.call("check", new int[] {0, 0}));
        for (int i = 1; i <= 5; i++) {
            int v = model.later(0, 0, i);
            x.tell(v);
            model.call("tell", new int[] {v});
        }
        Due.is("true numbers", x.check(0, 0), 0);
        model.call("check", new int[] {0, 0});
    }

    private static String[] pick(int n, int weights) {
        if (n < 30) {
            String[] first = {"module", "hatch", "person", "machine", "gas", "tank"};
            int[] when = {0, 0, 0, 1, 1, 1, 2, 2, 3, 3, 3, 4, 4, 4, 5};
            return named(first[when[dice.nextInt(when.length)]]);
        }
        int at = dice.nextInt(weights);
        for (String c : CALLS) {
            String[] call = c.split(" ");
            at -= Integer.parseInt(call[1]);
            if (at < 0) {
                return call;
            }
        }
        return CALLS[0].split(" ");
    }

    private static String[] named(String name) {
        for (String c : CALLS) {
            if (c.startsWith(name + " ")) {
                return c.split(" ");
            }
        }
        return CALLS[0].split(" ");
    }

    private static int wild() {
        int[] all = {-2, -1, 0, 1, 2, 5, 6, 8, 10, 24, 40, 50, 51, 60, 61, 100, 101, 200, 201, 256,
            1000, 1001, 3000, 4001, 10001, 100001, 1000001, 10000001, Due.LOW, Due.LOW - 1,
            Integer.MAX_VALUE, Integer.MIN_VALUE};
        return all[dice.nextInt(all.length)];
    }

    private static int upTo(int n) {
        return n > 0 ? dice.nextInt(n) : 0;
    }

    private static int number(String sort, TinStation x) {
        switch (sort.charAt(0)) {
            case 'm': return upTo(x.count(0));
            case 'h': return upTo(x.count(1));
            case 'p': return upTo(x.count(2));
            case 'i': return upTo(x.count(3));
            case 'g': return dice.nextInt(5);
            case 't': return dice.nextInt(6);
            case 'k': return dice.nextInt(6);
            case 'l': return dice.nextInt(51);
            case 'V': return dice.nextInt(4) == 0 ? -1 : dice.nextInt(dice.nextBoolean() ? 2000 : 20);
            case 'W': return dice.nextInt(4) == 0 ? -1 : dice.nextInt(dice.nextBoolean() ? 3000 : 20);
            case 'U': return Due.use(dice.nextInt(101), dice.nextInt(40), dice.nextInt(12));
            case 'L': return 1 + dice.nextInt(dice.nextBoolean() ? 12 : 400);
            case 's': return dice.nextInt(22) - 1;
            case 'r': return 1 + dice.nextInt(dice.nextBoolean() ? 4 : 60);
            case 'P': return dice.nextInt(300);
            case 'S': return dice.nextInt(200);
            case 'B': return dice.nextInt(300) - 1;
            case 'o': return dice.nextInt(3000);
            case 'T': return 1 + dice.nextInt(most);
            case 'A': return 1 + dice.nextInt(200);
            case 'O': return dice.nextInt(12);
            case 'a': return dice.nextInt(8);
            case 'b': return dice.nextBoolean() ? dice.nextInt(5) : dice.nextInt(3000);
            case 'c': return dice.nextInt(10);
            case 'H': return upTo(1 << x.count(1));
            case 'R': return dice.nextInt(20001) - 10000;
            case 'C': return dice.nextInt(2001) - 1000;
            case 'K': return dice.nextInt(3) == 0 ? dice.nextInt(4001) : dice.nextInt(x.count(4) + 9);
            case 'M': return dice.nextBoolean() ? Due.LOW : dice.nextInt(1000);
            case 'N': return 1 + dice.nextInt(dice.nextBoolean() ? 5000 : 500000);
            case 'X': return dice.nextInt(2001) - 1000;
            case 'F': return 1 + dice.nextInt(5);
            default: return dice.nextInt(Integer.parseInt(sort));
        }
    }
}
