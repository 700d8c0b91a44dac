import java.lang.management.ManagementFactory;
import java.lang.reflect.Constructor;
import java.lang.reflect.Field;
import java.lang.reflect.Method;
import java.lang.reflect.Modifier;
import java.util.Random;
import java.util.TreeSet;

/** The public face, what a finding leaves, and that no call throws or makes objects. */
public final class FaceTest {
    private static final String[] FACE = {
        "module 0", "hatch 2", "shut 2", "gas 3", "leak 2", "tank 2", "grams 0", "person 1", "go 2",
        "doing 2", "about 2", "machine 4", "as 2", "turn 2", "of 2", "spares 2", "repair 3",
        "shed 2", "sun 2", "battery 1", "bounds 3", "ticks 1", "broke 1", "ahead 1", "line 4",
        "erase 0", "begin 0", "halt 1", "abort 0", "text 1", "hunt 0", "test 2", "best 1",
        "suspects 0", "read 2", "calibrate 2", "worked 1", "delay 1", "known 2", "mass 2", "dock 2",
        "undock 1", "tell 1", "check 2", "count 1", "found 1"};
    private static final int[] NUMBERS = {-2, -1, 0, 0, 0, 1, 1, 1, 2, 3, 4, 5, 6, 7, 8, 9, 10, 11,
        20, 21, 39, 40, 41, 60, 61, 100, 101, 255, 256, 500, 1000, 1001, 5000, 5001, 10000, 100000,
        100001, 1000000, 1000001, 10000000, 10000001, 50010005, 100100100, Due.LOW, Due.LOW - 1,
        Due.LOW - 5, Due.LOW - 6, Integer.MAX_VALUE, Integer.MIN_VALUE};

    public static void main(String[] args) throws Exception {
        face();
        findingsChangeNothing();
        makesNoObjects();
        Due.end();
    }

    private static void face() {
        TreeSet<String> due = new TreeSet<>(java.util.List.of(FACE));
        TreeSet<String> got = new TreeSet<>();
        for (Method m : TinStation.class.getDeclaredMethods()) {
            if (!Modifier.isPrivate(m.getModifiers()) && !m.isSynthetic()) {
                got.add(m.getName() + " " + m.getParameterCount());
                Due.is(m.getName() + " is public", Modifier.isPublic(m.getModifiers()) ? 1 : 0, 1);
                Due.is(m.getName() + " is static", Modifier.isStatic(m.getModifiers()) ? 1 : 0, 0);
                Due.same(m.getName() + " answers", m.getReturnType().getName(), "int");
                for (Class<?> c : m.getParameterTypes()) {
                    Due.same(m.getName() + " takes", c.getName(), "int");
                }
            }
        }
        Due.same("the calls", got.toString(), due.toString());
        for (Field f : TinStation.class.getDeclaredFields()) {
            Due.is(f.getName() + " is private", Modifier.isPrivate(f.getModifiers()) ? 1 : 0, 1);
        }
        Constructor<?>[] made = TinStation.class.getDeclaredConstructors();
        Due.is("constructors", made.length, 1);
        Due.is("its numbers", made[0].getParameterCount(), 0);
        Due.is("final", Modifier.isFinal(TinStation.class.getModifiers()) ? 1 : 0, 1);
    }

    private static Method method(String call) throws Exception {
        String[] parts = call.split(" ");
        Class<?>[] ints = new Class<?>[Integer.parseInt(parts[1])];
        java.util.Arrays.fill(ints, int.class);
        return TinStation.class.getMethod(parts[0], ints);
    }

    private static void findingsChangeNothing() throws Exception {
        Method[] all = new Method[FACE.length];
        for (int i = 0; i < FACE.length; i++) {
            all[i] = method(FACE[i]);
        }
        for (int run = 0; run < 60; run++) {
            Random dice = new Random(run);
            TinStation x = Due.withModules(run % 4);
            for (int n = 0; n < 500; n++) {
                Method m = all[dice.nextInt(all.length)];
                Object[] v = new Object[m.getParameterCount()];
                for (int i = 0; i < v.length; i++) {
                    v[i] = NUMBERS[dice.nextInt(NUMBERS.length)];
                }
                one(x, m, v);
            }
        }
    }

    private static void one(TinStation x, Method m, Object[] v) throws Exception {
        String was = Due.seen(x);
        int[] found = new int[6];
        for (int k = 1; k <= 5; k++) {
            found[k] = x.found(k);
        }
        int got = (Integer) m.invoke(x, v);
        int k = got < Due.LOW && got >= Due.LOW - 5 ? Due.LOW - got : 0;
        for (int i = 1; i <= 5; i++) {
            Due.is(m.getName() + ": found(" + i + ")", x.found(i), found[i] + (i == k ? 1 : 0));
        }
        Due.is(m.getName() + " answers no other finding", got < Due.LOW - 5 ? 1 : 0, 0);
        boolean tellsOnly = java.util.List.of("about", "as", "of", "shed", "broke", "ahead", "text",
                "best", "suspects", "worked", "known", "count", "found", "grams")
                .contains(m.getName());
        if (k > 0 && !m.getName().equals("check") || tellsOnly) {
            Due.same(m.getName() + " changed something", Due.seen(x), was);
        }
    }

    private static void makesNoObjects() {
        com.sun.management.ThreadMXBean bean =
                (com.sun.management.ThreadMXBean) ManagementFactory.getThreadMXBean();
        TinStation x = Due.withModules(6);
        for (int i = 0; i < 10; i++) {
            x.hatch(i % 6, (i + 1) % 6);
            x.machine(i % 6, i % 6, Due.use(i, i, i), 1000);
            x.person(i % 6);
            x.line(9, 0, 0, 0);
        }
        x.begin();
        x.hunt();
        long before = 0;
        for (int n = 0; n < 512; n++) {
            if (n == 12) {
                before = bean.getThreadAllocatedBytes(Thread.currentThread().getId());
            }
            x.ahead(200);
            x.ticks(1);
            x.shed(20, n % 3);
            x.best(n % 2);
            x.tell(n);
            x.check(0, 0);
        }
        long made = bean.getThreadAllocatedBytes(Thread.currentThread().getId()) - before;
        Due.is("500 rounds make objects (" + made + " bytes)", made > 20000 ? 1 : 0, 0);
    }
}
