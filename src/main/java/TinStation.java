/**
 * A station of modules, people and machines that goes on tick by tick.
 *
 * <p>The document ../shared/DOC.md says what each call does; its words in capitals are the names
 * used here. Two worlds are kept: the one that is, and one that is overwritten whenever a call asks
 * what would come, so that looking ahead makes no new objects.
 */
public final class TinStation {
    private static final int LOW = -1000000000;
    private static final int BEYOND = LOW - 1;
    private static final int NONE = LOW - 2;
    private static final int STATE = LOW - 3;
    private static final int FULL = LOW - 4;
    private static final int KIND = LOW - 5;
    private static final int FINDINGS = 5;

    private static final int STAY = -1;
    private static final int NO_MACHINE = -1;

    private static final int MOST_MODULES = 6;
    private static final int MOST_HATCHES = 8;
    private static final int MOST_PEOPLE = 6;
    private static final int MOST_MACHINES = 10;
    private static final int MOST_LINES = 40;
    private static final int MOST_READINGS = 40;
    private static final int MOST_CALIBRATIONS = 20;
    private static final int MOST_WAITING = 24;

    private static final int OXYGEN = 0;
    private static final int CARBON = 1;
    private static final int VAPOUR = 2;
    private static final int GASES = 4;
    private static final int HEAT = 4;
    private static final int SORTS = 5;
    private static final int MOST_HELD = 100000;
    private static final int MOST_LEAK = 50;

    private static final int WATER = 0;
    private static final int WASTE = 1;
    private static final int BRINE = 2;
    private static final int COAL = 3;
    private static final int TANKS = 4;
    private static final int SPACE_GRAMS = 4;
    private static final int SPACE_HEAT = 5;
    private static final int STORES = 6;
    private static final int MOST_STORED = 1000000;

    private static final int MOST_TICK = 3000;
    private static final int MOST_TICKS_AT_ONCE = 100;
    private static final int MOST_AHEAD = 200;

    private static final int MOST_MASS = 10000000;
    private static final int MOST_SPEED = 1000;

    private final Script script = new Script();
    private final World now = new World(script);
    private final World later = new World(script);
    private final Hunt leakHunt = new Hunt();
    private final Journal journal = new Journal();
    private final int[] waiting = new int[MOST_WAITING];
    private final int[] findings = new int[FINDINGS + 1];
    private int waitingNumbers;
    private int stationMass;
    private int stationSpeed;

    public TinStation() {
        stationMass = 400000;
    }

    // ---- modules

    public int module() {
        return counted(now.air.addModule());
    }

    public int hatch(int a, int b) {
        return counted(now.air.addHatch(a, b));
    }

    public int shut(int hatch, int is) {
        return counted(now.air.setOpen(hatch, is));
    }

    public int gas(int module, int gas, int v) {
        return counted(now.air.setHeld(module, gas, v));
    }

    public int leak(int module, int v) {
        return counted(now.air.setLeak(module, v));
    }

    public int tank(int tank, int v) {
        return counted(now.air.setStored(tank, v));
    }

    public int grams() {
        return now.air.allGrams();
    }

    // ---- people

    public int person(int module) {
        if (!now.air.hasModule(module)) {
            return counted(BEYOND);
        }
        return counted(now.crew.addPerson(module));
    }

    public int go(int person, int module) {
        return counted(now.walk(person, module));
    }

    public int doing(int person, int what) {
        return counted(now.crew.setDoing(person, what));
    }

    public int about(int person, int what) {
        return counted(now.crew.tellOf(person, what));
    }

    // ---- machines

    public int machine(int kind, int module, int use, int life) {
        if (!now.air.hasModule(module)) {
            return counted(BEYOND);
        }
        return counted(now.plant.addMachine(kind, module, use, life));
    }

    public int as(int machine, int kind) {
        return counted(now.plant.rateAs(machine, kind));
    }

    public int turn(int machine, int is) {
        return counted(now.plant.setOn(machine, is));
    }

    public int of(int machine, int what) {
        return counted(now.plant.tellOf(machine, what));
    }

    public int spares(int kind, int n) {
        return counted(now.plant.setSpares(kind, n));
    }

    public int repair(int person, int machine, int hours) {
        return counted(now.mend(person, machine, hours));
    }

    public int shed(int power, int what) {
        return counted(now.plant.shedding(power, what));
    }

    // ---- ticks

    public int sun(int light, int store) {
        return counted(now.plant.setSun(light, store));
    }

    public int battery(int v) {
        return counted(now.plant.setBattery(v));
    }

    public int bounds(int oxygen, int carbon, int heat) {
        return counted(now.bounds.setAll(oxygen, carbon, heat));
    }

    public int ticks(int n) {
        if (n < 1 || n > MOST_TICKS_AT_ONCE) {
            return counted(BEYOND);
        }
        if (now.tick + n > MOST_TICK) {
            return counted(FULL);
        }
        for (int i = 0; i < n; i++) {
            now.passTick();
        }
        return now.tick;
    }

    public int broke(int what) {
        return counted(now.bounds.tellFirstBreak(what));
    }

    public int ahead(int n) {
        if (n < 1 || n > MOST_AHEAD) {
            return counted(BEYOND);
        }
        later.becomeLike(now);
        for (int i = 1; i <= n; i++) {
            if (later.passTick()) {
                return i;
            }
        }
        return 0;
    }

    // ---- the text

    public int line(int op, int a, int b, int c) {
        if (op < 0 || op >= Script.OPS) {
            return counted(BEYOND);
        }
        if (now.course.runs) {
            return counted(STATE);
        }
        return counted(script.addLine(op, a, b, c));
    }

    public int erase() {
        if (now.course.runs) {
            return counted(STATE);
        }
        int had = script.lines;
        script.lines = 0;
        return had;
    }

    public int begin() {
        if (now.course.runs || script.lines == 0) {
            return counted(STATE);
        }
        now.course.start();
        return 1;
    }

    public int halt(int is) {
        return counted(now.course.setHalted(is));
    }

    public int abort() {
        if (!now.course.runs) {
            return counted(STATE);
        }
        now.course.giveUp();
        return one(now.course.runs);
    }

    public int text(int what) {
        return counted(now.course.tellOf(what));
    }

    // ---- the leak hunt

    public int hunt() {
        return leakHunt.startOver(now.air);
    }

    public int test(int hatches, int module) {
        return counted(leakHunt.narrow(now.air, hatches, module));
    }

    public int best(int what) {
        return counted(leakHunt.bestTest(now.air, what));
    }

    public int suspects() {
        return leakHunt.suspected;
    }

    // ---- readings

    public int read(int sensor, int value) {
        return counted(journal.addReading(sensor, value, now.tick));
    }

    public int calibrate(int sensor, int over) {
        return counted(journal.addCalibration(sensor, over, now.tick));
    }

    public int worked(int reading) {
        return counted(journal.workedBack(reading));
    }

    public int delay(int ticks) {
        return counted(journal.setDelay(ticks));
    }

    public int known(int sensor, int tick) {
        return counted(journal.latestHeard(sensor, tick));
    }

    // ---- ships

    public int mass(int what, int v) {
        if (what == 0) {
            return counted(setMass(v));
        }
        if (what == 1) {
            return counted(setSpeed(v));
        }
        return counted(BEYOND);
    }

    public int dock(int mass, int speed) {
        if (!isMass(mass) || !isSpeed(speed)) {
            return counted(BEYOND);
        }
        int both = stationMass + mass;
        if (both > MOST_MASS) {
            return counted(STATE);
        }
        // The products reach ten thousand millions, more than an int holds.
        long impulse = (long) stationMass * stationSpeed + (long) mass * speed;
        stationSpeed = (int) (impulse / both);
        stationMass = both;
        return stationSpeed;
    }

    public int undock(int mass) {
        if (!isMass(mass)) {
            return counted(BEYOND);
        }
        if (stationMass - mass < 1) {
            return counted(STATE);
        }
        stationMass -= mass;
        return stationMass;
    }

    // ---- what is told

    public int tell(int v) {
        if (waitingNumbers >= MOST_WAITING) {
            return counted(FULL);
        }
        waiting[waitingNumbers] = v;
        waitingNumbers++;
        return waitingNumbers;
    }

    public int check(int module, int gas) {
        int told = waitingNumbers;
        waitingNumbers = 0;
        if (!now.air.hasModule(module) || !Air.isSort(gas)) {
            return counted(BEYOND);
        }
        later.becomeLike(now);
        for (int i = 0; i < told; i++) {
            later.passTick();
            if (later.air.amount(module, gas) != waiting[i]) {
                return 1 + i;
            }
        }
        return 0;
    }

    public int count(int what) {
        switch (what) {
            case 0: return now.air.modules;
            case 1: return now.air.hatches;
            case 2: return now.crew.people;
            case 3: return now.plant.machines;
            case 4: return now.tick;
            case 5: return script.lines;
            case 6: return journal.readings;
            case 7: return journal.calibrations;
            case 8: return waitingNumbers;
            case 9: return now.crew.menders();
            default: return counted(BEYOND);
        }
    }

    public int found(int k) {
        if (k < 1 || k > FINDINGS) {
            return counted(BEYOND);
        }
        return findings[k];
    }

    /** Every answer that may be a finding goes through here, so that found() can tell of it. */
    private int counted(int answer) {
        if (answer < LOW && answer >= LOW - FINDINGS) {
            findings[LOW - answer]++;
        }
        return answer;
    }

    private int setMass(int v) {
        if (v != LOW && !isMass(v)) {
            return BEYOND;
        }
        int was = stationMass;
        if (v != LOW) {
            stationMass = v;
        }
        return was;
    }

    private int setSpeed(int v) {
        if (v != LOW && !isSpeed(v)) {
            return BEYOND;
        }
        int was = stationSpeed;
        if (v != LOW) {
            stationSpeed = v;
        }
        return was;
    }

    private static boolean isMass(int v) {
        return v >= 1 && v <= MOST_MASS;
    }

    private static boolean isSpeed(int v) {
        return v >= -MOST_SPEED && v <= MOST_SPEED;
    }

    private static boolean isSwitch(int is) {
        return is == 0 || is == 1;
    }

    private static int one(boolean is) {
        return is ? 1 : 0;
    }

    private static void copy(int[] from, int[] to) {
        System.arraycopy(from, 0, to, 0, Math.min(from.length, to.length));
    }

    /** One by one: the library's copying is for numbers. */
    private static void copyFlags(boolean[] from, boolean[] to) {
        for (int i = 0; i < from.length && i < to.length; i++) {
            to[i] = from[i];
        }
    }

    /** Where each gram and all heat is: modules, tanks and space, and the hatches between. */
    private static final class Air {
        final int[] held = new int[MOST_MODULES * SORTS];
        final int[] leaks = new int[MOST_MODULES];
        final int[] oneEnd = new int[MOST_HATCHES];
        final int[] otherEnd = new int[MOST_HATCHES];
        final boolean[] open = new boolean[MOST_HATCHES];
        final int[] stored = new int[STORES];
        int modules;
        int hatches;

        void becomeLike(Air other) {
            copy(other.held, held);
            copy(other.leaks, leaks);
            copy(other.oneEnd, oneEnd);
            copy(other.otherEnd, otherEnd);
            copyFlags(other.open, open);
            copy(other.stored, stored);
            modules = other.modules;
            hatches = other.hatches;
        }

        static boolean isSort(int sort) {
            return sort >= 0 && sort < SORTS;
        }

        boolean hasModule(int m) {
            return m >= 0 && m < modules;
        }

        boolean hasHatch(int h) {
            return h >= 0 && h < hatches;
        }

        int addModule() {
            if (modules >= MOST_MODULES) {
                return FULL;
            }
            modules++;
            return modules - 1;
        }

        int addHatch(int a, int b) {
            if (!hasModule(a) || !hasModule(b) || a == b) {
                return BEYOND;
            }
            if (hatches >= MOST_HATCHES) {
                return FULL;
            }
            oneEnd[hatches] = a;
            otherEnd[hatches] = b;
            open[hatches] = true;
            hatches++;
            return hatches - 1;
        }

        int setOpen(int h, int is) {
            if (!hasHatch(h) || !isSwitch(is)) {
                return BEYOND;
            }
            int was = one(open[h]);
            open[h] = is == 1;
            return was;
        }

        int setHeld(int m, int sort, int v) {
            if (!hasModule(m) || !isSort(sort) || v < STAY || v > MOST_HELD) {
                return BEYOND;
            }
            int was = held[m * SORTS + sort];
            if (v != STAY) {
                held[m * SORTS + sort] = v;
            }
            return was;
        }

        int setLeak(int m, int v) {
            if (!hasModule(m) || v < 0 || v > MOST_LEAK) {
                return BEYOND;
            }
            int was = leaks[m];
            leaks[m] = v;
            return was;
        }

        int setStored(int t, int v) {
            if (t < 0 || t >= STORES || v < STAY || v > MOST_STORED) {
                return BEYOND;
            }
            int was = stored[t];
            if (v != STAY) {
                stored[t] = v;
            }
            return was;
        }

        int allGrams() {
            int sum = stored[SPACE_GRAMS];
            for (int t = 0; t < TANKS; t++) {
                sum += stored[t];
            }
            for (int m = 0; m < modules; m++) {
                for (int g = 0; g < GASES; g++) {
                    sum += held[m * SORTS + g];
                }
            }
            return sum;
        }

        /** The caller has asked for the module and the sort. */
        int amount(int m, int sort) {
            return held[m * SORTS + sort];
        }

        void give(int m, int sort, int much) {
            held[m * SORTS + sort] += much;
        }

        int take(int m, int sort, int most) {
            int taken = Math.min(most, held[m * SORTS + sort]);
            held[m * SORTS + sort] -= taken;
            return taken;
        }

        void fill(int t, int much) {
            stored[t] += much;
        }

        int draw(int t, int most) {
            int drawn = Math.min(most, stored[t]);
            stored[t] -= drawn;
            return drawn;
        }

        boolean openBetween(int a, int b) {
            for (int h = 0; h < hatches; h++) {
                boolean joins = oneEnd[h] == a && otherEnd[h] == b
                        || oneEnd[h] == b && otherEnd[h] == a;
                if (joins && open[h]) {
                    return true;
                }
            }
            return false;
        }

        /** Heat stays: only gases leak. */
        void leakOut() {
            for (int m = 0; m < modules; m++) {
                for (int g = 0; g < GASES; g++) {
                    int lost = amount(m, g) * leaks[m] / 1000;
                    give(m, g, -lost);
                    fill(SPACE_GRAMS, lost);
                }
            }
        }

        void mixThroughHatches() {
            for (int h = 0; h < hatches; h++) {
                if (open[h]) {
                    mix(oneEnd[h], otherEnd[h]);
                }
            }
        }

        private void mix(int a, int b) {
            for (int sort = 0; sort < SORTS; sort++) {
                // Cut towards 0, so a negative quarter is the same flow the other way.
                int quarter = (amount(a, sort) - amount(b, sort)) / 4;
                give(a, sort, -quarter);
                give(b, sort, quarter);
            }
        }
    }

    /** People: where they are, what they do, what they lacked. */
    private static final class Crew {
        private static final int[] BREATH = {4, 6, 14};
        private static final int[] WARMTH = {10, 15, 40};
        private static final int DOINGS = 3;
        private static final int WORK = 1;
        private static final int DRINK = 10;

        final int[] place = new int[MOST_PEOPLE];
        final int[] does = new int[MOST_PEOPLE];
        final int[] mended = new int[MOST_PEOPLE];
        final int[] ticksLeft = new int[MOST_PEOPLE];
        final int[] shortOfAir = new int[MOST_PEOPLE];
        final int[] dry = new int[MOST_PEOPLE];
        int people;

        void becomeLike(Crew other) {
            copy(other.place, place);
            copy(other.does, does);
            copy(other.mended, mended);
            copy(other.ticksLeft, ticksLeft);
            copy(other.shortOfAir, shortOfAir);
            copy(other.dry, dry);
            people = other.people;
        }

        boolean has(int p) {
            return p >= 0 && p < people;
        }

        boolean mends(int p) {
            return mended[p] != NO_MACHINE;
        }

        int addPerson(int m) {
            if (people >= MOST_PEOPLE) {
                return FULL;
            }
            place[people] = m;
            mended[people] = NO_MACHINE;
            people++;
            return people - 1;
        }

        int setDoing(int p, int what) {
            if (!has(p) || what < 0 || what >= DOINGS) {
                return BEYOND;
            }
            if (mends(p)) {
                return STATE;
            }
            int was = does[p];
            does[p] = what;
            return was;
        }

        int tellOf(int p, int what) {
            if (!has(p)) {
                return BEYOND;
            }
            switch (what) {
                case 0: return place[p];
                case 1: return does[p];
                case 2: return mended[p];
                case 3: return ticksLeft[p];
                case 4: return shortOfAir[p];
                case 5: return dry[p];
                default: return BEYOND;
            }
        }

        void startMending(int p, int machine, int hours) {
            mended[p] = machine;
            ticksLeft[p] = hours;
            does[p] = WORK;
        }

        boolean isMended(int machine) {
            for (int p = 0; p < people; p++) {
                if (mended[p] == machine) {
                    return true;
                }
            }
            return false;
        }

        int menders() {
            int sum = 0;
            for (int p = 0; p < people; p++) {
                sum += one(mends(p));
            }
            return sum;
        }

        boolean anyoneIn(int m) {
            for (int p = 0; p < people; p++) {
                if (place[p] == m) {
                    return true;
                }
            }
            return false;
        }

        void mendOn(Plant plant) {
            for (int p = 0; p < people; p++) {
                if (mends(p)) {
                    ticksLeft[p]--;
                    if (ticksLeft[p] == 0) {
                        plant.makeNew(mended[p]);
                        mended[p] = NO_MACHINE;
                    }
                }
            }
        }

        void live(Air air) {
            for (int p = 0; p < people; p++) {
                breathe(p, air);
                drink(p, air);
                air.give(place[p], HEAT, WARMTH[does[p]]);
            }
        }

        private void breathe(int p, Air air) {
            int need = BREATH[does[p]];
            int got = air.take(place[p], OXYGEN, need);
            air.give(place[p], CARBON, got);
            shortOfAir[p] += one(got < need);
        }

        private void drink(int p, Air air) {
            int got = air.draw(WATER, DRINK);
            int moist = got * 4 / 10;
            air.give(place[p], VAPOUR, moist);
            air.fill(WASTE, got - moist);
            dry[p] += one(got < DRINK);
        }
    }

    /** Machines, their spares, and the power that drives them. */
    private static final class Plant {
        private static final int KINDS = 6;
        private static final int SCRUBBER = 1;
        private static final int SPLITTER = 2;
        private static final int DRYER = 3;
        private static final int STILL = 4;
        private static final int COOLER = 5;
        private static final int[] KIND_ABOVE = {-1, 0, 0, 0, 3, 0};
        private static final int MOST_USE = 100;
        private static final int MOST_LIFE = 1000;
        private static final int MOST_SPARES = 20;
        private static final int MOST_LIGHT = 500;
        private static final int MOST_STORE = 5000;
        private static final int MOST_SHED_POWER = 1000;
        private static final int OWN_HEAT = 2;

        final int[] kind = new int[MOST_MACHINES];
        final int[] place = new int[MOST_MACHINES];
        final int[] rate = new int[MOST_MACHINES];
        final int[] power = new int[MOST_MACHINES];
        final int[] harm = new int[MOST_MACHINES];
        final int[] life = new int[MOST_MACHINES];
        final int[] wear = new int[MOST_MACHINES];
        final boolean[] on = new boolean[MOST_MACHINES];
        final boolean[] fault = new boolean[MOST_MACHINES];
        final boolean[] ran = new boolean[MOST_MACHINES];
        final int[] sparesLeft = new int[KINDS];
        int machines;
        int light;
        int store = 1000;
        int charge;

        void becomeLike(Plant other) {
            copy(other.kind, kind);
            copy(other.place, place);
            copy(other.rate, rate);
            copy(other.power, power);
            copy(other.harm, harm);
            copy(other.life, life);
            copy(other.wear, wear);
            copyFlags(other.on, on);
            copyFlags(other.fault, fault);
            copyFlags(other.ran, ran);
            copy(other.sparesLeft, sparesLeft);
            machines = other.machines;
            light = other.light;
            store = other.store;
            charge = other.charge;
        }

        static boolean isKind(int k) {
            return k >= 0 && k < KINDS;
        }

        boolean has(int i) {
            return i >= 0 && i < machines;
        }

        int addMachine(int ofKind, int m, int use, int lasts) {
            if (!isKind(ofKind) || !isUse(use) || lasts < 1 || lasts > MOST_LIFE) {
                return BEYOND;
            }
            if (machines >= MOST_MACHINES) {
                return FULL;
            }
            int i = machines;
            kind[i] = ofKind;
            place[i] = m;
            rate[i] = use / 1000000;
            power[i] = use / 1000 % 1000;
            harm[i] = use % 1000;
            life[i] = lasts;
            on[i] = true;
            machines++;
            return i;
        }

        private static boolean isUse(int use) {
            return use >= 0 && use / 1000000 <= MOST_USE && use / 1000 % 1000 <= MOST_USE
                    && use % 1000 <= MOST_USE;
        }

        int rateAs(int i, int wanted) {
            if (!has(i) || !isKind(wanted)) {
                return BEYOND;
            }
            return isUnder(kind[i], wanted) ? rate[i] : KIND;
        }

        private static boolean isUnder(int k, int wanted) {
            int at = k;
            for (int steps = 0; steps < KINDS && isKind(at); steps++) {
                if (at == wanted) {
                    return true;
                }
                at = KIND_ABOVE[at];
            }
            return false;
        }

        int setOn(int i, int is) {
            if (!has(i) || !isSwitch(is)) {
                return BEYOND;
            }
            int was = one(on[i]);
            on[i] = is == 1;
            return was;
        }

        int tellOf(int i, int what) {
            if (!has(i)) {
                return BEYOND;
            }
            switch (what) {
                case 0: return kind[i];
                case 1: return place[i];
                case 2: return power[i];
                case 3: return harm[i];
                case 4: return wear[i];
                case 5: return one(on[i]);
                case 6: return one(fault[i]);
                case 7: return one(ran[i]);
                case 8: return life[i];
                default: return BEYOND;
            }
        }

        int setSpares(int k, int n) {
            if (!isKind(k) || n < STAY || n > MOST_SPARES) {
                return BEYOND;
            }
            int was = sparesLeft[k];
            if (n != STAY) {
                sparesLeft[k] = n;
            }
            return was;
        }

        int setSun(int gives, int holds) {
            if (gives < 0 || gives > MOST_LIGHT || holds < 0 || holds > MOST_STORE) {
                return BEYOND;
            }
            light = gives;
            store = holds;
            charge = Math.min(charge, store);
            return charge;
        }

        int setBattery(int v) {
            if (v < STAY || v > store) {
                return BEYOND;
            }
            int was = charge;
            if (v != STAY) {
                charge = v;
            }
            return was;
        }

        void makeNew(int i) {
            if (has(i)) {
                fault[i] = false;
                wear[i] = 0;
            }
        }

        private boolean isReady(int i) {
            return on[i] && !fault[i];
        }

        void sharePower(int tick) {
            boolean lit = tick % 9 < 6;
            int left = charge + (lit ? light : 0);
            for (int i = 0; i < machines; i++) {
                ran[i] = isReady(i) && left >= power[i];
                if (ran[i]) {
                    left -= power[i];
                }
            }
            charge = Math.min(left, store);
        }

        void workAll(Air air) {
            for (int i = 0; i < machines; i++) {
                if (ran[i]) {
                    work(i, air);
                    wear[i]++;
                    air.give(place[i], HEAT, OWN_HEAT);
                    fault[i] = wear[i] >= life[i];
                }
            }
        }

        private void work(int i, Air air) {
            switch (kind[i]) {
                case SCRUBBER:
                    air.fill(COAL, air.take(place[i], CARBON, rate[i]));
                    break;
                case SPLITTER:
                    split(i, air);
                    break;
                case DRYER:
                    air.fill(WATER, air.take(place[i], VAPOUR, rate[i]));
                    break;
                case STILL:
                    distil(i, air);
                    break;
                case COOLER:
                    air.fill(SPACE_HEAT, air.take(place[i], HEAT, 10 * rate[i]));
                    break;
                default:
                    break;
            }
        }

        private void split(int i, Air air) {
            int water = air.draw(WATER, rate[i]);
            int oxygen = water * 8 / 9;
            air.give(place[i], OXYGEN, oxygen);
            air.fill(SPACE_GRAMS, water - oxygen);
        }

        private void distil(int i, Air air) {
            int waste = air.draw(WASTE, rate[i]);
            int water = waste * 3 / 4;
            air.fill(WATER, water);
            air.fill(BRINE, waste - water);
        }

        int shedding(int mostPower, int what) {
            if (mostPower < 0 || mostPower > MOST_SHED_POWER) {
                return BEYOND;
            }
            switch (what) {
                case 0: return leastHarm(mostPower);
                case 1: return sumOver(leastHarm(mostPower), harm);
                case 2: return sumOver(readySet() & ~leastHarm(mostPower), power);
                default: return BEYOND;
            }
        }

        private int readySet() {
            int set = 0;
            for (int i = 0; i < machines; i++) {
                if (isReady(i)) {
                    set |= 1 << i;
                }
            }
            return set;
        }

        private int sumOver(int set, int[] what) {
            int sum = 0;
            for (int i = 0; i < machines; i++) {
                if ((set >> i & 1) == 1) {
                    sum += what[i];
                }
            }
            return sum;
        }

        /** Sets come in the order of their bits: of equally good ones the first is kept. */
        private int leastHarm(int mostPower) {
            int ready = readySet();
            int best = ready;
            int bestHarm = sumOver(ready, harm);
            for (int set = 0; set < ready; set++) {
                if ((set & ~ready) != 0 || sumOver(ready & ~set, power) > mostPower) {
                    continue;
                }
                int setHarm = sumOver(set, harm);
                boolean fewer = Integer.bitCount(set) < Integer.bitCount(best);
                if (setHarm < bestHarm || setHarm == bestHarm && fewer) {
                    best = set;
                    bestHarm = setHarm;
                }
            }
            return best;
        }
    }

    /** What must hold where people are, and the first time that it did not. */
    private static final class Bounds {
        int leastOxygen = 200;
        int mostCarbon = 300;
        int mostHeat = 5000;
        boolean broken;
        int firstTick;
        int firstModule;

        void becomeLike(Bounds other) {
            leastOxygen = other.leastOxygen;
            mostCarbon = other.mostCarbon;
            mostHeat = other.mostHeat;
            broken = other.broken;
            firstTick = other.firstTick;
            firstModule = other.firstModule;
        }

        int setAll(int oxygen, int carbon, int heat) {
            if (!isBound(oxygen) || !isBound(carbon) || !isBound(heat)) {
                return BEYOND;
            }
            leastOxygen = oxygen;
            mostCarbon = carbon;
            mostHeat = heat;
            return 1;
        }

        private static boolean isBound(int v) {
            return v >= 0 && v <= MOST_HELD;
        }

        int tellFirstBreak(int what) {
            if (what != 0 && what != 1) {
                return BEYOND;
            }
            if (!broken) {
                return NONE;
            }
            return what == 0 ? firstTick : firstModule;
        }

        /** Whether one breaks now. */
        boolean look(Air air, Crew crew, int tick) {
            for (int m = 0; m < air.modules; m++) {
                if (crew.anyoneIn(m) && breaksIn(m, air)) {
                    keepFirst(tick, m);
                    return true;
                }
            }
            return false;
        }

        private boolean breaksIn(int m, Air air) {
            return air.amount(m, OXYGEN) < leastOxygen || air.amount(m, CARBON) > mostCarbon
                    || air.amount(m, HEAT) > mostHeat;
        }

        private void keepFirst(int tick, int m) {
            if (!broken) {
                broken = true;
                firstTick = tick;
                firstModule = m;
            }
        }
    }

    /** The lines of the text. No tick changes them, so both worlds share them. */
    private static final class Script {
        static final int END = 0;
        static final int CHECK = 1;
        static final int ON = 2;
        static final int OFF = 3;
        static final int OPEN = 4;
        static final int CLOSE = 5;
        static final int WAIT = 6;
        static final int GO = 7;
        static final int SAFE = 8;
        static final int JUMP = 9;
        static final int ABORT = 10;
        static final int MEND = 11;
        static final int OPS = 12;

        final int[] op = new int[MOST_LINES];
        final int[] a = new int[MOST_LINES];
        final int[] b = new int[MOST_LINES];
        final int[] c = new int[MOST_LINES];
        int lines;

        boolean has(int at) {
            return at >= 0 && at < lines;
        }

        int addLine(int anOp, int anA, int aB, int aC) {
            if (lines >= MOST_LINES) {
                return FULL;
            }
            op[lines] = anOp;
            a[lines] = anA;
            b[lines] = aB;
            c[lines] = aC;
            lines++;
            return lines - 1;
        }
    }

    /** How far the text has come. */
    private static final class Course {
        static final int NO_LINE = -1;
        static final int CAME_TO_END = 1;
        static final int ABORTED_TO_END = 2;
        static final int CUT_OFF = 3;
        static final int BEHIND_LAST = 4;

        boolean runs;
        boolean halted;
        boolean aborting;
        int next;
        int safe = NO_LINE;
        int waitLeft;
        int ended;

        void becomeLike(Course other) {
            runs = other.runs;
            halted = other.halted;
            aborting = other.aborting;
            next = other.next;
            safe = other.safe;
            waitLeft = other.waitLeft;
            ended = other.ended;
        }

        void start() {
            runs = true;
            halted = false;
            aborting = false;
            next = 0;
            safe = NO_LINE;
            waitLeft = 0;
        }

        void finish(int how) {
            runs = false;
            ended = how;
        }

        /** There is no line to go on at when one can't be done. */
        void goOnAt(int at) {
            if (at == NO_LINE) {
                giveUp();
            } else {
                next = at;
            }
        }

        void giveUp() {
            halted = false;
            waitLeft = 0;
            if (safe == NO_LINE || aborting) {
                finish(CUT_OFF);
                return;
            }
            aborting = true;
            next = safe;
        }

        int setHalted(int is) {
            if (!isSwitch(is)) {
                return BEYOND;
            }
            if (!runs || halted == (is == 1)) {
                return STATE;
            }
            halted = is == 1;
            return 1;
        }

        int tellOf(int what) {
            switch (what) {
                case 0: return one(runs);
                case 1: return runs ? next : NO_LINE;
                case 2: return one(halted);
                case 3: return one(aborting);
                case 4: return safe;
                case 5: return waitLeft;
                case 6: return ended;
                default: return BEYOND;
            }
        }
    }

    /** All that a tick changes. */
    private static final class World {
        private static final int MOST_WAIT = 100;
        private static final int MOST_HOURS = 60;

        final Script script;
        final Air air = new Air();
        final Crew crew = new Crew();
        final Plant plant = new Plant();
        final Bounds bounds = new Bounds();
        final Course course = new Course();
        int tick;

        World(Script script) {
            this.script = script;
        }

        void becomeLike(World other) {
            air.becomeLike(other.air);
            crew.becomeLike(other.crew);
            plant.becomeLike(other.plant);
            bounds.becomeLike(other.bounds);
            course.becomeLike(other.course);
            tick = other.tick;
        }

        /** Whether a bound broke in it. */
        boolean passTick() {
            doText();
            crew.mendOn(plant);
            plant.sharePower(tick);
            plant.workAll(air);
            crew.live(air);
            air.leakOut();
            air.mixThroughHatches();
            boolean broke = bounds.look(air, crew, tick);
            tick++;
            return broke;
        }

        int walk(int p, int m) {
            if (!crew.has(p) || !air.hasModule(m)) {
                return BEYOND;
            }
            if (crew.mends(p) || crew.place[p] == m || !air.openBetween(crew.place[p], m)) {
                return STATE;
            }
            crew.place[p] = m;
            return 1;
        }

        int mend(int p, int i, int hours) {
            if (!crew.has(p) || !plant.has(i) || hours < 1 || hours > MOST_HOURS) {
                return BEYOND;
            }
            if (!plant.fault[i] || crew.isMended(i) || crew.mends(p)
                    || crew.place[p] != plant.place[i]) {
                return STATE;
            }
            int k = plant.kind[i];
            if (plant.sparesLeft[k] < 1) {
                return NONE;
            }
            plant.sparesLeft[k]--;
            crew.startMending(p, i, hours);
            return plant.sparesLeft[k];
        }

        private void doText() {
            if (!course.runs || course.halted) {
                return;
            }
            if (course.waitLeft > 0) {
                course.waitLeft--;
                return;
            }
            int at = course.next;
            if (!script.has(at)) {
                course.finish(Course.BEHIND_LAST);
            } else if (script.op[at] == Script.END) {
                course.finish(course.aborting ? Course.ABORTED_TO_END : Course.CAME_TO_END);
            } else {
                course.goOnAt(lineAfter(at));
            }
        }

        /** Does a line and tells the one to go on with; none if it can't be done. */
        private int lineAfter(int at) {
            int a = script.a[at];
            switch (script.op[at]) {
                case Script.CHECK:
                    return lineAfterCheck(at);
                case Script.ABORT:
                    return Course.NO_LINE;
                case Script.JUMP:
                    return script.has(a) ? a : Course.NO_LINE;
                case Script.SAFE:
                    if (!script.has(a)) {
                        return Course.NO_LINE;
                    }
                    course.safe = a;
                    return at + 1;
                case Script.WAIT:
                    if (a < 1 || a > MOST_WAIT) {
                        return Course.NO_LINE;
                    }
                    // The tick that meets the WAIT is the first of those that it tells.
                    course.waitLeft = a - 1;
                    return at + 1;
                default:
                    return actByText(at) < LOW ? Course.NO_LINE : at + 1;
            }
        }

        /** The act of hand that a line stands for. No call answered its finding: not counted. */
        private int actByText(int at) {
            int a = script.a[at];
            int b = script.b[at];
            switch (script.op[at]) {
                case Script.ON: return plant.setOn(a, 1);
                case Script.OFF: return plant.setOn(a, 0);
                case Script.OPEN: return air.setOpen(a, 1);
                case Script.CLOSE: return air.setOpen(a, 0);
                case Script.GO: return walk(a, b);
                case Script.MEND: return mend(a, b, script.c[at]);
                default: return STATE;
            }
        }

        private int lineAfterCheck(int at) {
            int what = script.a[at];
            int which = script.b[at] % 10;
            int least = script.b[at] / 10;
            int elseLine = script.c[at];
            if (!script.has(elseLine) || !isCheck(what, which, least)) {
                return Course.NO_LINE;
            }
            return holds(what, which, least) ? at + 1 : elseLine;
        }

        private boolean isCheck(int what, int which, int least) {
            switch (what) {
                case 5: return which >= 0 && which < TANKS;
                case 6: return true;
                case 7: return least == 0 && plant.has(which);
                default: return Air.isSort(what) && air.hasModule(which);
            }
        }

        private boolean holds(int what, int which, int least) {
            switch (what) {
                case 5: return air.stored[which] >= least;
                case 6: return plant.charge >= least;
                case 7: return !plant.fault[which];
                default: return air.amount(which, what) >= least;
            }
        }
    }

    /** Which modules may leak, as bits. */
    private static final class Hunt {
        final int[] part = new int[MOST_MODULES];
        int suspected;

        int startOver(Air air) {
            suspected = (1 << air.modules) - 1;
            return air.modules;
        }

        int narrow(Air air, int closed, int m) {
            if (!air.hasModule(m) || closed < 0 || closed >= 1 << air.hatches) {
                return BEYOND;
            }
            findParts(air, closed);
            int left = suspected & part[m];
            if (left == 0) {
                return NONE;
            }
            suspected = left;
            return left;
        }

        int bestTest(Air air, int what) {
            if (what != 0 && what != 1) {
                return BEYOND;
            }
            if (suspected == 0) {
                return NONE;
            }
            int best = 0;
            int bestLeft = leftAtWorst(air, 0);
            int sets = 1 << air.hatches;
            for (int set = 1; set < sets; set++) {
                int left = leftAtWorst(air, set);
                boolean fewer = Integer.bitCount(set) < Integer.bitCount(best);
                if (left < bestLeft || left == bestLeft && fewer) {
                    best = set;
                    bestLeft = left;
                }
            }
            return what == 0 ? best : bestLeft;
        }

        private int leftAtWorst(Air air, int closed) {
            findParts(air, closed);
            int worst = 0;
            for (int m = 0; m < air.modules; m++) {
                worst = Math.max(worst, Integer.bitCount(part[m] & suspected));
            }
            return worst;
        }

        /** Whether hatches really are open doesn't matter to a test. */
        private void findParts(Air air, int closed) {
            for (int m = 0; m < air.modules; m++) {
                part[m] = 1 << m;
            }
            for (int h = 0; h < air.hatches; h++) {
                if ((closed >> h & 1) == 0) {
                    join(air, part[air.oneEnd[h]] | part[air.otherEnd[h]]);
                }
            }
        }

        private void join(Air air, int together) {
            for (int m = 0; m < air.modules; m++) {
                if ((together >> m & 1) == 1) {
                    part[m] = together;
                }
            }
        }
    }

    /** Readings, calibrations and what the ground hears. Ticks only go up, so both are in order. */
    private static final class Journal {
        private static final int SENSORS = 4;
        private static final int MOST_VALUE = 10000;
        private static final int MOST_OVER = 1000;
        private static final int MOST_DELAY = 100;
        private static final int MOST_ASKED_TICK = 4000;

        final int[] readSensor = new int[MOST_READINGS];
        final int[] readTick = new int[MOST_READINGS];
        final int[] readValue = new int[MOST_READINGS];
        final int[] heardTick = new int[MOST_READINGS];
        final int[] setSensor = new int[MOST_CALIBRATIONS];
        final int[] setTick = new int[MOST_CALIBRATIONS];
        final int[] setOver = new int[MOST_CALIBRATIONS];
        int readings;
        int calibrations;
        int lag = 5;

        private static boolean isSensor(int s) {
            return s >= 0 && s < SENSORS;
        }

        int addReading(int s, int value, int tick) {
            if (!isSensor(s) || value < -MOST_VALUE || value > MOST_VALUE) {
                return BEYOND;
            }
            if (readings >= MOST_READINGS) {
                return FULL;
            }
            readSensor[readings] = s;
            readTick[readings] = tick;
            readValue[readings] = value;
            heardTick[readings] = tick + lag;
            readings++;
            return readings - 1;
        }

        int addCalibration(int s, int over, int tick) {
            if (!isSensor(s) || over < -MOST_OVER || over > MOST_OVER) {
                return BEYOND;
            }
            if (calibrations >= MOST_CALIBRATIONS) {
                return FULL;
            }
            setSensor[calibrations] = s;
            setTick[calibrations] = tick;
            setOver[calibrations] = over;
            calibrations++;
            return calibrations;
        }

        int setDelay(int ticks) {
            if (ticks < 0 || ticks > MOST_DELAY) {
                return BEYOND;
            }
            int was = lag;
            lag = ticks;
            return was;
        }

        int latestHeard(int s, int tick) {
            if (!isSensor(s) || tick < 0 || tick > MOST_ASKED_TICK) {
                return BEYOND;
            }
            for (int r = readings - 1; r >= 0; r--) {
                if (readSensor[r] == s && heardTick[r] <= tick) {
                    return r;
                }
            }
            return NONE;
        }

        int workedBack(int r) {
            if (r < 0 || r >= readings) {
                return BEYOND;
            }
            return readValue[r] - tooMuch(readSensor[r], readTick[r]);
        }

        private int tooMuch(int s, int tick) {
            int before = -1;
            int after = -1;
            for (int i = 0; i < calibrations; i++) {
                if (setSensor[i] != s) {
                    continue;
                }
                if (setTick[i] <= tick) {
                    before = i;
                } else if (after < 0 || setTick[i] == setTick[after]) {
                    after = i;
                }
            }
            if (before < 0) {
                return after < 0 ? 0 : setOver[after];
            }
            return after < 0 ? setOver[before] : between(before, after, tick);
        }

        private int between(int before, int after, int tick) {
            int span = setTick[after] - setTick[before];
            if (span <= 0) {
                return setOver[before];
            }
            int difference = setOver[after] - setOver[before];
            return setOver[before] + difference * (tick - setTick[before]) / span;
        }
    }
}
