import java.util.ArrayList;
import java.util.Comparator;
import java.util.List;
import java.util.Random;

/**
 * Runs of calls, drawn with fixed seeds, on the program and on a second, slower writing of the
 * document: lists that are sorted by priority order, and stability found by comparing whole states.
 */
public final class ModelTest {
    private static final Check CHECK = new Check("ModelTest");
    private static final int RUNS = 1500;
    private static final int CALLS = 512;

    public static void main(String[] args) {
        for (int seed = 0; seed < RUNS; seed++) {
            run(seed);
        }
        CHECK.end();
    }

    private static void run(int seed) {
        Random random = new Random(seed);
        PoeSwitch real = new PoeSwitch();
        Model model = new Model();
        boolean wild = seed % 4 == 0;
        for (int call = 0; call < CALLS; call++) {
            int method = random.nextInt(32);
            int a = wild && random.nextInt(8) == 0 ? edge(random) : random.nextInt(8);
            int[] values = arguments(method, random, wild);
            // The dear calls are asked less often, to keep the test short.
            if ((method == 28 || method == 29) && random.nextInt(6) != 0) {
                method = 20;
            }
            int got = ask(real, method, a, values);
            int due = ask(model, method, a, values);
            CHECK.due("seed " + seed + ", call " + call + ", method " + method + " (" + a + ", "
                    + values[0] + ", " + values[1] + ", " + values[2] + ", " + values[3] + ")", got, due);
            if (got != due) {
                return;
            }
        }
    }

    private static int edge(Random random) {
        int[] edges = {-1, -2, 0, 1, 2, 3, 4, 7, 8, 9, 15, 16, 30, 31, 40, 60, 61, 99, 100, 154, 155,
            265, 266, 300, 301, 999, 1000, 3000, 3001, Integer.MIN_VALUE, Integer.MAX_VALUE};
        return edges[random.nextInt(edges.length)];
    }

    private static int[] arguments(int method, Random random, boolean wild) {
        int[] values = new int[4];
        for (int i = 0; i < 4; i++) {
            values[i] = random.nextInt(400);
        }
        if (method == 0) {
            values[0] = random.nextInt(700);
        } else if (method == 2) {
            values[0] = random.nextInt(200);
        } else if (method == 3 || method == 4 || method == 5) {
            values[0] = 1 + random.nextInt(random.nextInt(6) == 0 ? 30 : 4);
        } else if (method == 9) {
            values[0] = random.nextInt(3);
        } else if (method == 10) {
            values[0] = 188 + random.nextInt(79);
            values[1] = random.nextInt(18);
            values[2] = new int[] {0, 4, 5, 8, 9, 12, 13, 17, 20, 26, 30, 36, 44, 45}[random.nextInt(14)];
            values[3] = random.nextInt(170);
        } else if (method == 12) {
            values[0] = random.nextInt(170);
        } else if (method == 13) {
            values[0] = random.nextInt(160);
        } else if (method == 20) {
            values[0] = 1 + random.nextInt(random.nextInt(10) == 0 ? 60 : 4);
        }
        for (int i = 0; wild && i < 4; i++) {
            if (random.nextInt(8) == 0) {
                values[i] = edge(random);
            }
        }
        return values;
    }

    private static int supply(int a) {
        return a >= 3 && a < 8 ? a % 3 : a;
    }

    private static int slot(int a) {
        return a >= 2 && a < 8 ? a % 2 : a;
    }

    private static int ask(PoeSwitch x, int method, int a, int[] v) {
        switch (method) {
            case 0: return x.setCapacity(supply(a), v[0]);
            case 1: return x.setWorking(supply(a), v[0] % 3 != 0);
            case 2: return x.setReserve(v[0]);
            case 3: return x.setRestartGap(v[0]);
            case 4: return x.setOverloadLimit(v[0]);
            case 5: return x.setCooldownTime(v[0]);
            case 6: return x.budget();
            case 7: return x.available();
            case 8: return x.setEnabled(a, v[0] % 3 != 0);
            case 9: return x.setPriority(a, v[0]);
            case 10: return x.connect(a, v[0], v[1], v[2], v[3]);
            case 11: return x.disconnect(a);
            case 12: return x.setLoad(a, v[0]);
            case 13: return x.setRequest(a, v[0]);
            case 14: return x.request(a);
            case 15: return x.eligiblePorts();
            case 16: return x.poweredPorts();
            case 17: return x.grant(a);
            case 18: return x.overload(a);
            case 19: return x.cooldown(a);
            case 20: return x.advance(v[0]);
            case 21: return x.clock();
            case 22: return x.eventCount();
            case 23: return x.eventTime(a + v[1] % 2 * 8);
            case 24: return x.eventPort(a + v[1] % 2 * 8);
            case 25: return x.eventKind(a + v[1] % 2 * 8);
            case 26: return x.shedIfFails(supply(a));
            case 27: return x.fittingPorts();
            case 28: return x.secondsToStable();
            case 29: return x.stablePorts();
            case 30: return x.save(slot(a));
            default: return x.restore(slot(a));
        }
    }

    private static int ask(Model x, int method, int a, int[] v) {
        switch (method) {
            case 0: return x.capacity(supply(a), v[0]);
            case 1: return x.working(supply(a), v[0] % 3 != 0);
            case 2: return x.setting(0, v[0], 0, 3000);
            case 3: return x.setting(1, v[0], 1, 30);
            case 4: return x.setting(2, v[0], 1, 30);
            case 5: return x.setting(3, v[0], 1, 60);
            case 6: return x.now.budget();
            case 7: return x.now.available();
            case 8: return x.enable(a, v[0] % 3 != 0);
            case 9: return x.priority(a, v[0]);
            case 10: return x.connect(a, v);
            case 11: return x.disconnect(a);
            case 12: return x.load(a, v[0]);
            case 13: return x.changeRequest(a, v[0]);
            case 14: return x.request(a);
            case 15: return x.now.eligible();
            case 16: return x.now.powered();
            case 17: return a < 0 || a > 7 ? -1 : x.now.ports.get(a).grant;
            case 18: return a < 0 || a > 7 ? -1 : x.now.ports.get(a).overload;
            case 19: return a < 0 || a > 7 ? -1 : x.now.ports.get(a).cooldown;
            case 20: return x.advance(v[0]);
            case 21: return x.now.clock;
            case 22: return Math.min(16, x.now.events.size());
            case 23: return x.event(a + v[1] % 2 * 8, 0);
            case 24: return x.event(a + v[1] % 2 * 8, 1);
            case 25: return x.event(a + v[1] % 2 * 8, 2);
            case 26: return x.shedIfFails(supply(a));
            case 27: return x.fitting();
            case 28: return x.stable(false);
            case 29: return x.stable(true);
            case 30: return x.save(slot(a));
            default: return x.restore(slot(a));
        }
    }

    private static final class Plug {
        final int number;
        boolean enabled = true;
        int priority = 2;
        int[] device;
        int request;
        int grant;
        int overload;
        int cooldown;

        Plug(int number) {
            this.number = number;
        }

        Plug copy() {
            Plug copy = new Plug(number);
            copy.enabled = enabled;
            copy.priority = priority;
            copy.device = device == null ? null : device.clone();
            copy.request = request;
            copy.grant = grant;
            copy.overload = overload;
            copy.cooldown = cooldown;
            return copy;
        }

        int deviceClass() {
            int current = device[2];
            return current <= 4 ? 0 : current < 9 ? -6 : current <= 12 ? 1 : current < 17 ? -6
                    : current <= 20 ? 2 : current < 26 ? -6 : current <= 30 ? 3 : current < 36 ? -6
                    : current <= 44 ? 4 : -6;
        }

        int maximum() {
            switch (deviceClass()) {
                case 0: case 3: return 154;
                case 1: return 40;
                case 2: return 70;
                case 4: return 300;
                default: return 0;
            }
        }

        boolean eligible() {
            return enabled && device != null && deviceClass() >= 0
                    && device[0] >= 190 && device[0] <= 265 && device[1] <= 15;
        }

        String counters() {
            return grant + "," + overload + "," + cooldown;
        }
    }

    private static final class Room {
        int[] capacity = {1500, 0, 0};
        boolean[] working = {true, true, true};
        int[] settings = {0, 2, 3, 5};
        int timer;
        int clock;
        List<Plug> ports = new ArrayList<>();
        List<int[]> events = new ArrayList<>();

        Room copy() {
            Room copy = new Room();
            copy.capacity = capacity.clone();
            copy.working = working.clone();
            copy.settings = settings.clone();
            copy.timer = timer;
            copy.clock = clock;
            for (Plug port : ports) {
                copy.ports.add(port.copy());
            }
            copy.events.addAll(events);
            return copy;
        }

        int budget() {
            int sum = 0;
            for (int i = 0; i < 3; i++) {
                sum += working[i] ? capacity[i] : 0;
            }
            return sum < settings[0] ? 0 : sum - settings[0];
        }

        int available() {
            return budget() - ports.stream().mapToInt(port -> port.grant).sum();
        }

        int eligible() {
            return ports.stream().filter(Plug::eligible).mapToInt(port -> 1 << port.number).sum();
        }

        int powered() {
            return ports.stream().filter(port -> port.grant > 0).mapToInt(port -> 1 << port.number).sum();
        }

        List<Plug> inOrder() {
            List<Plug> sorted = new ArrayList<>(ports);
            sorted.sort(Comparator.comparingInt((Plug port) -> port.priority)
                    .thenComparingInt(port -> port.number));
            return sorted;
        }

        void shed() {
            List<Plug> sorted = inOrder();
            for (int i = 7; i >= 0 && available() < 0; i--) {
                Plug port = sorted.get(i);
                if (port.grant > 0) {
                    port.grant = 0;
                    port.overload = 0;
                    events.add(new int[] {clock, port.number, 1});
                }
            }
        }

        void second() {
            shed();
            boolean[] cut = new boolean[8];
            for (Plug port : ports) {
                if (port.grant == 0) {
                    continue;
                }
                port.overload = port.device[3] > port.grant ? port.overload + 1 : 0;
                if (port.overload >= settings[2]) {
                    port.grant = 0;
                    port.overload = 0;
                    port.cooldown = settings[3];
                    cut[port.number] = true;
                    events.add(new int[] {clock, port.number, 2});
                }
            }
            for (Plug port : ports) {
                if (!cut[port.number] && port.cooldown > 0) {
                    port.cooldown -= 1;
                }
            }
            timer = Math.max(0, timer - 1);
            if (timer == 0) {
                for (Plug port : inOrder()) {
                    if (port.eligible() && port.grant == 0 && port.cooldown == 0
                            && port.request <= available()) {
                        port.grant = port.request;
                        timer = settings[1];
                        events.add(new int[] {clock, port.number, 0});
                        break;
                    }
                }
            }
            clock += 1;
        }

        String allButTheClock() {
            StringBuilder text = new StringBuilder();
            text.append(timer).append('|').append(events.size());
            for (Plug port : ports) {
                text.append('|').append(port.counters());
            }
            return text.toString();
        }
    }

    private static final class Model {
        Room now = new Room();
        final Room[] saved = new Room[2];

        Model() {
            for (int i = 0; i < 8; i++) {
                now.ports.add(new Plug(i));
            }
        }

        int capacity(int supply, int value) {
            if (supply < 0 || supply > 2) {
                return -1;
            }
            if (value < 0 || value > 3000) {
                return -2;
            }
            int before = now.capacity[supply];
            now.capacity[supply] = value;
            return before;
        }

        int working(int supply, boolean value) {
            if (supply < 0 || supply > 2) {
                return -1;
            }
            int before = now.working[supply] ? 1 : 0;
            now.working[supply] = value;
            return before;
        }

        int setting(int which, int value, int from, int to) {
            if (value < from || value > to) {
                return -2;
            }
            int before = now.settings[which];
            now.settings[which] = value;
            return before;
        }

        Plug plug(int port) {
            return port < 0 || port > 7 ? null : now.ports.get(port);
        }

        void powerOff(Plug port) {
            port.grant = 0;
            port.overload = 0;
            port.cooldown = 0;
        }

        int enable(int number, boolean value) {
            Plug port = plug(number);
            if (port == null) {
                return -1;
            }
            int before = port.enabled ? 1 : 0;
            port.enabled = value;
            if (!value) {
                powerOff(port);
            }
            return before;
        }

        int priority(int number, int value) {
            Plug port = plug(number);
            if (port == null) {
                return -1;
            }
            if (value < 0 || value > 2) {
                return -2;
            }
            int before = port.priority;
            port.priority = value;
            return before;
        }

        int connect(int number, int[] device) {
            Plug port = plug(number);
            if (port == null) {
                return -1;
            }
            if (device[0] < 1 || device[0] > 999 || device[1] < 0 || device[1] > 99
                    || device[2] < 0 || device[2] > 60 || device[3] < 0 || device[3] > 999) {
                return -2;
            }
            if (port.device != null) {
                return -3;
            }
            port.device = device.clone();
            port.request = port.maximum();
            return port.deviceClass();
        }

        int disconnect(int number) {
            Plug port = plug(number);
            if (port == null) {
                return -1;
            }
            if (port.device == null) {
                return -3;
            }
            int answer = port.grant > 0 ? 1 : 0;
            port.device = null;
            powerOff(port);
            return answer;
        }

        int load(int number, int value) {
            Plug port = plug(number);
            if (port == null) {
                return -1;
            }
            if (value < 0 || value > 999) {
                return -2;
            }
            if (port.device == null) {
                return -3;
            }
            int before = port.device[3];
            port.device[3] = value;
            return before;
        }

        int changeRequest(int number, int power) {
            Plug port = plug(number);
            if (port == null) {
                return -1;
            }
            if (port.device == null || port.deviceClass() < 0) {
                return -3;
            }
            if (power < 1 || power > port.maximum()) {
                return -2;
            }
            if (port.grant > 0 && power > port.grant && power - port.grant > now.available()) {
                return -5;
            }
            int before = port.request;
            port.request = power;
            if (port.grant > 0) {
                port.grant = power;
            }
            return before;
        }

        int request(int number) {
            Plug port = plug(number);
            if (port == null) {
                return -1;
            }
            return port.device == null || port.deviceClass() < 0 ? -6 : port.request;
        }

        int advance(int seconds) {
            if (seconds < 1 || seconds > 60) {
                return -2;
            }
            int before = now.events.size();
            for (int i = 0; i < seconds; i++) {
                now.second();
            }
            return now.events.size() - before;
        }

        int event(int index, int part) {
            int kept = Math.min(16, now.events.size());
            if (index < 0 || index >= kept) {
                return -1;
            }
            return now.events.get(now.events.size() - kept + index)[part];
        }

        int shedIfFails(int supply) {
            if (supply < 0 || supply > 2) {
                return -1;
            }
            Room plan = now.copy();
            plan.working[supply] = false;
            plan.events.clear();
            plan.second();
            int set = 0;
            for (int[] event : plan.events) {
                set |= event[2] == 1 ? 1 << event[1] : 0;
            }
            return set;
        }

        int fitting() {
            int left = now.budget();
            int set = 0;
            for (Plug port : now.inOrder()) {
                if (port.eligible() && port.request <= left) {
                    left -= port.request;
                    set |= 1 << port.number;
                }
            }
            return set;
        }

        int stable(boolean ports) {
            Room plan = now.copy();
            plan.events.clear();
            for (int seconds = 0; seconds <= 300; seconds++) {
                int powered = plan.powered();
                String before = plan.allButTheClock();
                plan.second();
                if (before.equals(plan.allButTheClock())) {
                    return ports ? powered : seconds;
                }
            }
            return -6;
        }

        int save(int slot) {
            if (slot < 0 || slot > 1) {
                return -1;
            }
            saved[slot] = now.copy();
            return now.clock;
        }

        int restore(int slot) {
            if (slot < 0 || slot > 1) {
                return -1;
            }
            if (saved[slot] == null) {
                return -3;
            }
            now = saved[slot].copy();
            return now.clock;
        }
    }
}
