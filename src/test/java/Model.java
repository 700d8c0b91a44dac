import java.util.ArrayList;
import java.util.Arrays;
import java.util.List;
import java.util.TreeSet;

/**
 * The document written a second time, in another manner than the class: objects in lists, sets of
 * numbers, and a look ahead that plays all calls again on a new one. ModelTest holds both together.
 */
final class Model {
    private static final int LOW = Due.LOW;

    static final class Room {
        final long[] has = new long[5];
        int leak;
    }

    static final class Door {
        int a;
        int b;
        boolean open = true;
    }

    static final class Somebody {
        int room;
        int doing;
        Device mends;
        int yet;
        int lacked;
        int thirst;
    }

    static final class Device {
        int kind;
        int room;
        int rate;
        int power;
        int harm;
        int life;
        int wear;
        boolean on = true;
        boolean fault;
        boolean ran;
    }

    record Line(int op, int a, int b, int c) {
    }

    record Reading(int sensor, int tick, int value, int heard) {
    }

    record Calibration(int sensor, int tick, int over) {
    }

    record Call(String name, int[] args) {
    }

    private final List<Call> calls = new ArrayList<>();
    private final List<Room> rooms = new ArrayList<>();
    private final List<Door> doors = new ArrayList<>();
    private final List<Somebody> people = new ArrayList<>();
    private final List<Device> devices = new ArrayList<>();
    private final List<Line> lines = new ArrayList<>();
    private final List<Reading> readings = new ArrayList<>();
    private final List<Calibration> calibrations = new ArrayList<>();
    private final List<Integer> told = new ArrayList<>();
    private TreeSet<Integer> suspected = new TreeSet<>();
    private final long[] tanks = new long[6];
    private final int[] spare = new int[6];
    private final int[] findings = new int[6];
    private final int[] bound = {200, 300, 5000};
    private int tick;
    private int light;
    private int store = 1000;
    private int charge;
    private int[] firstBreak;
    private boolean brokeNow;
    private boolean runs;
    private boolean halted;
    private boolean aborting;
    private int next;
    private int safe = -1;
    private int wait;
    private int ended;
    private int delayNow = 5;
    private long mass = 400000;
    private long speed;

    int call(String name, int[] v) {
        int answer = (int) answer(name, v);
        calls.add(new Call(name, v));
        if (answer < LOW && answer >= LOW - 5 && !name.equals("mass")) {
            findings[LOW - answer]++;
        } else if (name.equals("mass") && answer == Due.BEYOND) {
            findings[1]++;
        }
        return answer;
    }

    private long answer(String name, int[] v) {
        switch (name) {
            case "module": case "hatch": case "shut": case "gas": case "leak": case "tank":
            case "grams":
                return aboutModules(name, v);
            case "person": case "go": case "doing": case "about":
                return aboutPeople(name, v);
            case "machine": case "as": case "turn": case "of": case "spares": case "repair":
            case "shed":
                return aboutMachines(name, v);
            case "sun": case "battery": case "bounds": case "ticks": case "broke": case "ahead":
                return aboutTicks(name, v);
            case "line": case "erase": case "begin": case "halt": case "abort": case "text":
                return aboutText(name, v);
            case "hunt": case "test": case "best": case "suspects":
                return aboutHunt(name, v);
            case "read": case "calibrate": case "worked": case "delay": case "known":
                return aboutReadings(name, v);
            case "mass": case "dock": case "undock":
                return aboutShips(name, v);
            default:
                return aboutTold(name, v);
        }
    }

    private static boolean in(long v, long least, long most) {
        return least <= v && v <= most;
    }

    private static boolean at(List<?> list, int i) {
        return in(i, 0, list.size() - 1);
    }

    private long aboutModules(String name, int[] v) {
        switch (name) {
            case "module":
                if (rooms.size() == 6) {
                    return Due.FULL;
                }
                rooms.add(new Room());
                return rooms.size() - 1;
            case "hatch":
                if (!at(rooms, v[0]) || !at(rooms, v[1]) || v[0] == v[1]) {
                    return Due.BEYOND;
                }
                if (doors.size() == 8) {
                    return Due.FULL;
                }
                Door d = new Door();
                d.a = v[0];
                d.b = v[1];
                doors.add(d);
                return doors.size() - 1;
            case "shut":
                return shut(v[0], v[1]);
            case "gas":
                if (!at(rooms, v[0]) || !in(v[1], 0, 4) || !in(v[2], -1, 100000)) {
                    return Due.BEYOND;
                }
                return swap(rooms.get(v[0]).has, v[1], v[2]);
            case "leak":
                if (!at(rooms, v[0]) || !in(v[1], 0, 50)) {
                    return Due.BEYOND;
                }
                int was = rooms.get(v[0]).leak;
                rooms.get(v[0]).leak = v[1];
                return was;
            case "tank":
                return in(v[0], 0, 5) && in(v[1], -1, 1000000) ? swap(tanks, v[0], v[1])
                        : Due.BEYOND;
            default:
                return Arrays.stream(tanks).limit(5).sum() + rooms.stream()
                        .mapToLong(r -> Arrays.stream(r.has).limit(4).sum()).sum();
        }
    }

    private static long swap(long[] where, int i, int v) {
        long was = where[i];
        where[i] = v == -1 ? was : v;
        return was;
    }

    private int shut(int h, int is) {
        if (!at(doors, h) || !in(is, 0, 1)) {
            return Due.BEYOND;
        }
        boolean was = doors.get(h).open;
        doors.get(h).open = is == 1;
        return was ? 1 : 0;
    }

    private int aboutPeople(String name, int[] v) {
        if (name.equals("person")) {
            if (!at(rooms, v[0]) || people.size() == 6) {
                return at(rooms, v[0]) ? Due.FULL : Due.BEYOND;
            }
            people.add(new Somebody());
            people.get(people.size() - 1).room = v[0];
            return people.size() - 1;
        }
        if (name.equals("go")) {
            return go(v[0], v[1]);
        }
        if (!at(people, v[0]) || !in(v[1], 0, name.equals("doing") ? 2 : 5)) {
            return Due.BEYOND;
        }
        Somebody s = people.get(v[0]);
        if (name.equals("doing")) {
            if (s.mends != null) {
                return Due.STATE;
            }
            int was = s.doing;
            s.doing = v[1];
            return was;
        }
        int[] all = {s.room, s.doing, devices.indexOf(s.mends), s.yet, s.lacked, s.thirst};
        return all[v[1]];
    }

    private int go(int p, int m) {
        if (!at(people, p) || !at(rooms, m)) {
            return Due.BEYOND;
        }
        Somebody s = people.get(p);
        boolean way = doors.stream().anyMatch(d -> d.open
                && new TreeSet<>(List.of(d.a, d.b)).equals(new TreeSet<>(Arrays.asList(s.room, m))));
        if (s.mends != null || !way) {
            return Due.STATE;
        }
        s.room = m;
        return 1;
    }

    private int aboutMachines(String name, int[] v) {
        switch (name) {
            case "machine":
                return machine(v);
            case "as":
                if (!at(devices, v[0]) || !in(v[1], 0, 5)) {
                    return Due.BEYOND;
                }
                String[] under = {"0", "01", "02", "03", "034", "05"};
                Device d = devices.get(v[0]);
                return under[d.kind].indexOf('0' + v[1]) >= 0 ? d.rate : Due.KIND;
            case "turn":
                return turn(v[0], v[1]);
            case "of":
                if (!at(devices, v[0]) || !in(v[1], 0, 8)) {
                    return Due.BEYOND;
                }
                Device o = devices.get(v[0]);
                return new int[] {o.kind, o.room, o.power, o.harm, o.wear, o.on ? 1 : 0,
                    o.fault ? 1 : 0, o.ran ? 1 : 0, o.life}[v[1]];
            case "spares":
                if (!in(v[0], 0, 5) || !in(v[1], -1, 20)) {
                    return Due.BEYOND;
                }
                int was = spare[v[0]];
                spare[v[0]] = v[1] == -1 ? was : v[1];
                return was;
            case "repair":
                return repair(v[0], v[1], v[2]);
            default:
                return in(v[0], 0, 1000) && in(v[1], 0, 2) ? shed(v[0])[v[1]] : Due.BEYOND;
        }
    }

    private int machine(int[] v) {
        int rate = Math.floorDiv(v[2], 1000000);
        int power = Math.floorMod(Math.floorDiv(v[2], 1000), 1000);
        int harm = Math.floorMod(v[2], 1000);
        if (!in(v[0], 0, 5) || !at(rooms, v[1]) || !in(rate, 0, 100) || !in(power, 0, 100)
                || !in(harm, 0, 100) || !in(v[3], 1, 1000)) {
            return Due.BEYOND;
        }
        if (devices.size() == 10) {
            return Due.FULL;
        }
        Device d = new Device();
        d.kind = v[0];
        d.room = v[1];
        d.rate = rate;
        d.power = power;
        d.harm = harm;
        d.life = v[3];
        devices.add(d);
        return devices.size() - 1;
    }

    private int turn(int i, int is) {
        if (!at(devices, i) || !in(is, 0, 1)) {
            return Due.BEYOND;
        }
        boolean was = devices.get(i).on;
        devices.get(i).on = is == 1;
        return was ? 1 : 0;
    }

    private int repair(int p, int i, int hours) {
        if (!at(people, p) || !at(devices, i) || !in(hours, 1, 60)) {
            return Due.BEYOND;
        }
        Somebody s = people.get(p);
        Device d = devices.get(i);
        if (!d.fault || people.stream().anyMatch(o -> o.mends == d) || s.mends != null
                || s.room != d.room) {
            return Due.STATE;
        }
        if (spare[d.kind] == 0) {
            return Due.NONE;
        }
        s.mends = d;
        s.yet = hours;
        s.doing = 1;
        return --spare[d.kind];
    }

    private int[] shed(int most) {
        int[] best = null;
        long bestRank = 0;
        for (int set = 0; set < 1024; set++) {
            int harm = 0;
            int rest = 0;
            boolean may = true;
            for (int i = 0; i < 10; i++) {
                boolean shed = (set & 1 << i) != 0;
                boolean able = i < devices.size() && devices.get(i).on && !devices.get(i).fault;
                may &= able || !shed;
                harm += able && shed ? devices.get(i).harm : 0;
                rest += able && !shed ? devices.get(i).power : 0;
            }
            long rank = harm * 1000000L + Integer.bitCount(set) * 10000L + set;
            if (may && rest <= most && (best == null || rank < bestRank)) {
                best = new int[] {set, harm, rest};
                bestRank = rank;
            }
        }
        return best;
    }

    private int aboutTicks(String name, int[] v) {
        switch (name) {
            case "sun":
                if (!in(v[0], 0, 500) || !in(v[1], 0, 5000)) {
                    return Due.BEYOND;
                }
                light = v[0];
                store = v[1];
                charge = charge > store ? store : charge;
                return charge;
            case "battery":
                if (!in(v[0], -1, store)) {
                    return Due.BEYOND;
                }
                int was = charge;
                charge = v[0] == -1 ? was : v[0];
                return was;
            case "bounds":
                if (!Arrays.stream(v).allMatch(b -> in(b, 0, 100000))) {
                    return Due.BEYOND;
                }
                System.arraycopy(v, 0, bound, 0, 3);
                return 1;
            case "ticks":
                if (!in(v[0], 1, 100)) {
                    return Due.BEYOND;
                }
                if (tick + v[0] > 3000) {
                    return Due.FULL;
                }
                for (int i = 0; i < v[0]; i++) {
                    pass();
                }
                return tick;
            case "broke":
                if (!in(v[0], 0, 1)) {
                    return Due.BEYOND;
                }
                return firstBreak == null ? Due.NONE : firstBreak[v[0]];
            default:
                return in(v[0], 1, 200) ? ahead(v[0]) : Due.BEYOND;
        }
    }

    private Model again() {
        Model m = new Model();
        for (Call c : calls) {
            if (!c.name.equals("ahead") && !c.name.equals("check")) {
                m.call(c.name, c.args);
            }
        }
        return m;
    }

    private int ahead(int n) {
        Model m = again();
        for (int i = 1; i <= n; i++) {
            m.pass();
            if (m.brokeNow) {
                return i;
            }
        }
        return 0;
    }

    private void pass() {
        if (runs && !halted) {
            passText();
        }
        for (Somebody s : people) {
            if (s.mends != null && --s.yet == 0) {
                s.mends.fault = false;
                s.mends.wear = 0;
                s.mends = null;
            }
        }
        passPower();
        for (Device d : devices) {
            if (d.ran) {
                work(d);
            }
        }
        people.forEach(this::live);
        for (Room r : rooms) {
            for (int g = 0; g < 4; g++) {
                long lost = r.has[g] * r.leak / 1000;
                r.has[g] -= lost;
                tanks[4] += lost;
            }
        }
        for (Door d : doors) {
            for (int g = 0; d.open && g < 5; g++) {
                Room more = rooms.get(rooms.get(d.a).has[g] > rooms.get(d.b).has[g] ? d.a : d.b);
                Room less = more == rooms.get(d.a) ? rooms.get(d.b) : rooms.get(d.a);
                long flow = (more.has[g] - less.has[g]) / 4;
                more.has[g] -= flow;
                less.has[g] += flow;
            }
        }
        lookAtBounds();
        tick++;
    }

    private void lookAtBounds() {
        TreeSet<Integer> broken = new TreeSet<>();
        for (Somebody s : people) {
            long[] has = rooms.get(s.room).has;
            if (has[0] < bound[0] || has[1] > bound[1] || has[4] > bound[2]) {
                broken.add(s.room);
            }
        }
        brokeNow = !broken.isEmpty();
        if (brokeNow && firstBreak == null) {
            firstBreak = new int[] {tick, broken.first()};
        }
    }

    private void passPower() {
        int gives = in(tick % 9, 6, 8) ? 0 : light;
        int spent = 0;
        for (Device d : devices) {
            d.ran = d.on && !d.fault && gives + charge - spent >= d.power;
            spent += d.ran ? d.power : 0;
        }
        charge = Math.min(store, gives + charge - spent);
    }

    private static long out(long[] of, int i, long most) {
        long taken = of[i] < most ? of[i] : most;
        of[i] -= taken;
        return taken;
    }

    private void work(Device d) {
        long[] has = rooms.get(d.room).has;
        if (d.kind == 1) {
            tanks[3] += out(has, 1, d.rate);
        } else if (d.kind == 2) {
            long w = out(tanks, 0, d.rate);
            has[0] += w * 8 / 9;
            tanks[4] += w - w * 8 / 9;
        } else if (d.kind == 3) {
            tanks[0] += out(has, 2, d.rate);
        } else if (d.kind == 4) {
            long w = out(tanks, 1, d.rate);
            tanks[0] += w * 3 / 4;
            tanks[2] += w - w * 3 / 4;
        } else if (d.kind == 5) {
            tanks[5] += out(has, 4, 10L * d.rate);
        }
        d.wear++;
        has[4] += 2;
        if (d.wear == d.life) {
            d.fault = true;
        }
    }

    private void live(Somebody s) {
        long[] has = rooms.get(s.room).has;
        long need = s.doing == 0 ? 4 : s.doing == 1 ? 6 : 14;
        long air = out(has, 0, need);
        has[1] += air;
        s.lacked += air < need ? 1 : 0;
        long water = out(tanks, 0, 10);
        s.thirst += water < 10 ? 1 : 0;
        has[2] += water * 4 / 10;
        tanks[1] += water - water * 4 / 10;
        has[4] += s.doing == 0 ? 10 : s.doing == 1 ? 15 : 40;
    }

    private void passText() {
        if (wait > 0) {
            wait--;
        } else if (!at(lines, next)) {
            runs = false;
            ended = 4;
        } else {
            Line l = lines.get(next);
            next++;
            boolean could = did(l);
            if (!could) {
                abortNow();
            }
        }
    }

    private void abortNow() {
        wait = 0;
        halted = false;
        if (safe >= 0 && !aborting) {
            aborting = true;
            next = safe;
        } else {
            runs = false;
            ended = 3;
        }
    }

    private boolean did(Line l) {
        switch (l.op) {
            case 0:
                runs = false;
                ended = aborting ? 2 : 1;
                return true;
            case 1:
                return checked(l);
            case 2:
            case 3:
                return turn(l.a, l.op == 2 ? 1 : 0) >= LOW;
            case 4:
            case 5:
                return shut(l.a, l.op == 4 ? 1 : 0) >= LOW;
            case 6:
                wait = in(l.a, 1, 100) ? l.a - 1 : 0;
                return in(l.a, 1, 100);
            case 7:
                return go(l.a, l.b) >= LOW;
            case 8:
                safe = at(lines, l.a) ? l.a : safe;
                return at(lines, l.a);
            case 9:
                next = l.a;
                return at(lines, l.a);
            case 11:
                return repair(l.a, l.b, l.c) >= LOW;
            default:
                return false;
        }
    }

    private boolean checked(Line l) {
        int which = l.b % 10;
        int least = l.b / 10;
        if (!at(lines, l.c) || !in(l.a, 0, 7)) {
            return false;
        }
        boolean is;
        if (l.a <= 4) {
            if (!at(rooms, which)) {
                return false;
            }
            is = rooms.get(which).has[l.a] >= least;
        } else if (l.a == 5) {
            if (!in(which, 0, 3)) {
                return false;
            }
            is = tanks[which] >= least;
        } else if (l.a == 6) {
            is = charge >= least;
        } else {
            if (!at(devices, which) || least != 0) {
                return false;
            }
            is = !devices.get(which).fault;
        }
        next = is ? next : l.c;
        return true;
    }

    private int aboutText(String name, int[] v) {
        switch (name) {
            case "line":
                if (!in(v[0], 0, 11)) {
                    return Due.BEYOND;
                }
                if (runs || lines.size() == 40) {
                    return runs ? Due.STATE : Due.FULL;
                }
                lines.add(new Line(v[0], v[1], v[2], v[3]));
                return lines.size() - 1;
            case "erase":
                int had = lines.size();
                if (!runs) {
                    lines.clear();
                }
                return runs ? Due.STATE : had;
            case "begin":
                if (runs || lines.isEmpty()) {
                    return Due.STATE;
                }
                runs = true;
                halted = false;
                aborting = false;
                next = 0;
                safe = -1;
                wait = 0;
                return 1;
            case "halt":
                if (!in(v[0], 0, 1)) {
                    return Due.BEYOND;
                }
                if (!runs || (halted ? 1 : 0) == v[0]) {
                    return Due.STATE;
                }
                halted = !halted;
                return 1;
            case "abort":
                if (!runs) {
                    return Due.STATE;
                }
                abortNow();
                return runs ? 1 : 0;
            default:
                int[] all = {runs ? 1 : 0, runs ? next : -1, halted ? 1 : 0, aborting ? 1 : 0, safe,
                    wait, ended};
                return in(v[0], 0, 6) ? all[v[0]] : Due.BEYOND;
        }
    }

    private TreeSet<Integer> partOf(int closed, int room) {
        TreeSet<Integer> part = new TreeSet<>(List.of(room));
        for (int round = 0; round < 6; round++) {
            for (int h = 0; h < doors.size(); h++) {
                Door d = doors.get(h);
                if ((closed & 1 << h) == 0 && (part.contains(d.a) || part.contains(d.b))) {
                    part.add(d.a);
                    part.add(d.b);
                }
            }
        }
        return part;
    }

    private static int bits(TreeSet<Integer> set) {
        return set.stream().mapToInt(i -> 1 << i).sum();
    }

    private int aboutHunt(String name, int[] v) {
        if (name.equals("hunt")) {
            suspected = new TreeSet<>();
            for (int m = 0; m < rooms.size(); m++) {
                suspected.add(m);
            }
            return rooms.size();
        }
        if (name.equals("suspects")) {
            return bits(suspected);
        }
        if (name.equals("test")) {
            if (!at(rooms, v[1]) || !in(v[0], 0, (1L << doors.size()) - 1)) {
                return Due.BEYOND;
            }
            TreeSet<Integer> left = partOf(v[0], v[1]);
            left.retainAll(suspected);
            if (left.isEmpty()) {
                return Due.NONE;
            }
            suspected = left;
            return bits(left);
        }
        if (!in(v[0], 0, 1)) {
            return Due.BEYOND;
        }
        return suspected.isEmpty() ? Due.NONE : best()[v[0]];
    }

    private int[] best() {
        int[] best = null;
        int bestRank = 0;
        for (int set = 0; set < 1 << doors.size(); set++) {
            int worst = 0;
            for (int m : suspected) {
                TreeSet<Integer> left = partOf(set, m);
                left.retainAll(suspected);
                worst = Math.max(worst, left.size());
            }
            int rank = worst * 100000 + Integer.bitCount(set) * 1000 + set;
            if (best == null || rank < bestRank) {
                best = new int[] {set, worst};
                bestRank = rank;
            }
        }
        return best;
    }

    private int aboutReadings(String name, int[] v) {
        switch (name) {
            case "read":
                if (!in(v[0], 0, 3) || !in(v[1], -10000, 10000)) {
                    return Due.BEYOND;
                }
                if (readings.size() == 40) {
                    return Due.FULL;
                }
                readings.add(new Reading(v[0], tick, v[1], tick + delayNow));
                return readings.size() - 1;
            case "calibrate":
                if (!in(v[0], 0, 3) || !in(v[1], -1000, 1000)) {
                    return Due.BEYOND;
                }
                if (calibrations.size() == 20) {
                    return Due.FULL;
                }
                calibrations.add(new Calibration(v[0], tick, v[1]));
                return calibrations.size();
            case "worked":
                return at(readings, v[0]) ? worked(readings.get(v[0])) : Due.BEYOND;
            case "delay":
                if (!in(v[0], 0, 100)) {
                    return Due.BEYOND;
                }
                int was = delayNow;
                delayNow = v[0];
                return was;
            default:
                return known(v[0], v[1]);
        }
    }

    private int known(int sensor, int when) {
        if (!in(sensor, 0, 3) || !in(when, 0, 4000)) {
            return Due.BEYOND;
        }
        int best = -1;
        for (int i = 0; i < readings.size(); i++) {
            Reading r = readings.get(i);
            if (r.sensor == sensor && r.heard <= when
                    && (best < 0 || r.tick >= readings.get(best).tick)) {
                best = i;
            }
        }
        return best < 0 ? Due.NONE : best;
    }

    private int worked(Reading r) {
        java.util.TreeMap<Integer, Integer> overs = new java.util.TreeMap<>();
        for (Calibration c : calibrations) {
            if (c.sensor == r.sensor) {
                overs.put(c.tick, c.over);
            }
        }
        if (overs.isEmpty()) {
            return r.value;
        }
        Integer before = overs.floorKey(r.tick);
        Integer behind = overs.ceilingKey(r.tick);
        if (before == null || behind == null || before.equals(behind)) {
            return r.value - overs.get(before == null ? behind : before);
        }
        int from = overs.get(before);
        return r.value - (from + (overs.get(behind) - from) * (r.tick - before) / (behind - before));
    }

    private long aboutShips(String name, int[] v) {
        switch (name) {
            case "mass":
                boolean may = v[0] == 0 && in(v[1], 1, 10000000) || v[0] == 1 && in(v[1], -1000, 1000)
                        || in(v[0], 0, 1) && v[1] == LOW;
                if (!may) {
                    return Due.BEYOND;
                }
                long was = v[0] == 0 ? mass : speed;
                if (v[1] != LOW && v[0] == 0) {
                    mass = v[1];
                } else if (v[1] != LOW) {
                    speed = v[1];
                }
                return was;
            case "dock":
                if (!in(v[0], 1, 10000000) || !in(v[1], -1000, 1000)) {
                    return Due.BEYOND;
                }
                if (mass + v[0] > 10000000) {
                    return Due.STATE;
                }
                speed = (speed * mass + (long) v[0] * v[1]) / (mass + v[0]);
                mass += v[0];
                return speed;
            default:
                if (!in(v[0], 1, 10000000)) {
                    return Due.BEYOND;
                }
                if (mass - v[0] < 1) {
                    return Due.STATE;
                }
                mass -= v[0];
                return mass;
        }
    }

    private long aboutTold(String name, int[] v) {
        switch (name) {
            case "tell":
                if (told.size() == 24) {
                    return Due.FULL;
                }
                told.add(v[0]);
                return told.size();
            case "check":
                List<Integer> numbers = new ArrayList<>(told);
                told.clear();
                if (!at(rooms, v[0]) || !in(v[1], 0, 4)) {
                    return Due.BEYOND;
                }
                Model m = again();
                for (int i = 0; i < numbers.size(); i++) {
                    m.pass();
                    if (m.rooms.get(v[0]).has[v[1]] != numbers.get(i)) {
                        return 1 + i;
                    }
                }
                return 0;
            case "count":
                long menders = people.stream().filter(s -> s.mends != null).count();
                long[] all = {rooms.size(), doors.size(), people.size(), devices.size(), tick,
                    lines.size(), readings.size(), calibrations.size(), told.size(), menders};
                return in(v[0], 0, 9) ? all[v[0]] : Due.BEYOND;
            default:
                return in(v[0], 1, 5) ? findings[v[0]] : Due.BEYOND;
        }
    }

    /** What a gas would be behind n more ticks: for a test that tells true numbers. */
    int later(int room, int gas, int n) {
        Model m = again();
        for (int i = 0; i < n; i++) {
            m.pass();
        }
        return (int) m.rooms.get(room).has[gas];
    }
}
