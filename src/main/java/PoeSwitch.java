/** A simulator of a Power over Ethernet switch with eight ports and three power supplies. */
public final class PoeSwitch {
    public static final int NO_SUCH_INDEX = -1;
    public static final int BAD_VALUE = -2;
    public static final int BAD_STATE = -3;
    public static final int NO_BUDGET = -5;
    public static final int NONE = -6;
    public static final int POWERED = 0;
    public static final int SHED = 1;
    public static final int CUT = 2;

    private static final int PORTS = 8;
    private static final int SUPPLIES = 3;
    private static final int SLOTS = 2;
    private static final int LOG_SIZE = 16;

    private static final int MAX_POWER = 3000;
    private static final int MAX_RESTART_GAP = 30;
    private static final int MAX_OVERLOAD_LIMIT = 30;
    private static final int MAX_COOLDOWN_TIME = 60;
    private static final int LAST_PRIORITY = 2;
    private static final int MAX_RESISTANCE = 999;
    private static final int MAX_CAPACITANCE = 99;
    private static final int MAX_CURRENT = 60;
    private static final int MAX_LOAD = 999;
    private static final int MAX_ADVANCE = 60;
    private static final int MAX_SECONDS_TO_STABLE = 300;

    private static final int DETECTED_RESISTANCE_FROM = 190;
    private static final int DETECTED_RESISTANCE_TO = 265;
    private static final int DETECTED_CAPACITANCE_TO = 15;

    private static final int[] CLASS_CURRENT_FROM = {0, 9, 17, 26, 36};
    private static final int[] CLASS_CURRENT_TO = {4, 12, 20, 30, 44};
    private static final int[] CLASS_MAXIMUM = {154, 40, 70, 154, 300};

    private final State state = new State();
    // Planning simulates on this copy, so that it changes nothing and makes no objects.
    private final State plan = new State();
    // An element is null until its slot is saved for the first time.
    private final State[] snapshots = new State[SLOTS];

    public PoeSwitch() {
    }

    // ---- supplies and settings

    public int setCapacity(int supply, int capacity) {
        if (!isSupply(supply)) {
            return NO_SUCH_INDEX;
        }
        if (!isWithin(capacity, 0, MAX_POWER)) {
            return BAD_VALUE;
        }
        int previous = state.capacities[supply];
        state.capacities[supply] = capacity;
        return previous;
    }

    public int setWorking(int supply, boolean working) {
        if (!isSupply(supply)) {
            return NO_SUCH_INDEX;
        }
        boolean previous = state.works[supply];
        state.works[supply] = working;
        return previous ? 1 : 0;
    }

    public int setReserve(int reserve) {
        if (!isWithin(reserve, 0, MAX_POWER)) {
            return BAD_VALUE;
        }
        int previous = state.reserve;
        state.reserve = reserve;
        return previous;
    }

    public int setRestartGap(int seconds) {
        if (!isWithin(seconds, 1, MAX_RESTART_GAP)) {
            return BAD_VALUE;
        }
        int previous = state.restartGap;
        state.restartGap = seconds;
        return previous;
    }

    public int setOverloadLimit(int seconds) {
        if (!isWithin(seconds, 1, MAX_OVERLOAD_LIMIT)) {
            return BAD_VALUE;
        }
        int previous = state.overloadLimit;
        state.overloadLimit = seconds;
        return previous;
    }

    public int setCooldownTime(int seconds) {
        if (!isWithin(seconds, 1, MAX_COOLDOWN_TIME)) {
            return BAD_VALUE;
        }
        int previous = state.cooldownTime;
        state.cooldownTime = seconds;
        return previous;
    }

    public int budget() {
        return state.wholeBudget();
    }

    public int available() {
        return state.sparePower();
    }

    // ---- ports and devices

    public int setEnabled(int port, boolean enabled) {
        if (!isPort(port)) {
            return NO_SUCH_INDEX;
        }
        Port target = state.ports[port];
        boolean previous = target.enabled;
        target.enabled = enabled;
        if (!enabled) {
            target.reset();
        }
        return previous ? 1 : 0;
    }

    public int setPriority(int port, int priority) {
        if (!isPort(port)) {
            return NO_SUCH_INDEX;
        }
        if (!isWithin(priority, 0, LAST_PRIORITY)) {
            return BAD_VALUE;
        }
        Port target = state.ports[port];
        int previous = target.priority;
        target.priority = priority;
        return previous;
    }

    public int connect(int port, int resistance, int capacitance, int current, int load) {
        if (!isPort(port)) {
            return NO_SUCH_INDEX;
        }
        if (!isWithin(resistance, 1, MAX_RESISTANCE)
                || !isWithin(capacitance, 0, MAX_CAPACITANCE)
                || !isWithin(current, 0, MAX_CURRENT)
                || !isWithin(load, 0, MAX_LOAD)) {
            return BAD_VALUE;
        }
        Port target = state.ports[port];
        if (target.connected) {
            return BAD_STATE;
        }
        int deviceClass = classOf(current);
        target.connected = true;
        target.detected = isDetected(resistance, capacitance);
        target.deviceClass = deviceClass;
        target.load = load;
        target.request = maximumOf(deviceClass);
        return deviceClass;
    }

    public int disconnect(int port) {
        if (!isPort(port)) {
            return NO_SUCH_INDEX;
        }
        Port target = state.ports[port];
        if (!target.connected) {
            return BAD_STATE;
        }
        boolean wasPowered = target.isPowered();
        target.connected = false;
        target.reset();
        return wasPowered ? 1 : 0;
    }

    public int setLoad(int port, int load) {
        if (!isPort(port)) {
            return NO_SUCH_INDEX;
        }
        if (!isWithin(load, 0, MAX_LOAD)) {
            return BAD_VALUE;
        }
        Port target = state.ports[port];
        if (!target.connected) {
            return BAD_STATE;
        }
        int previous = target.load;
        target.load = load;
        return previous;
    }

    public int setRequest(int port, int power) {
        if (!isPort(port)) {
            return NO_SUCH_INDEX;
        }
        Port target = state.ports[port];
        if (!target.hasRequest()) {
            return BAD_STATE;
        }
        if (!isWithin(power, 1, maximumOf(target.deviceClass))) {
            return BAD_VALUE;
        }
        if (target.isPowered()) {
            int growth = power - target.grant;
            // A smaller grant is always possible, even while the available power is negative.
            if (growth > 0 && growth > state.sparePower()) {
                return NO_BUDGET;
            }
            target.grant = power;
        }
        int previous = target.request;
        target.request = power;
        return previous;
    }

    public int request(int port) {
        if (!isPort(port)) {
            return NO_SUCH_INDEX;
        }
        Port target = state.ports[port];
        return target.hasRequest() ? target.request : NONE;
    }

    public int eligiblePorts() {
        return state.eligibleSet();
    }

    // ---- power state

    public int poweredPorts() {
        return state.poweredSet();
    }

    public int grant(int port) {
        return isPort(port) ? state.ports[port].grant : NO_SUCH_INDEX;
    }

    public int overload(int port) {
        return isPort(port) ? state.ports[port].overload : NO_SUCH_INDEX;
    }

    public int cooldown(int port) {
        return isPort(port) ? state.ports[port].cooldown : NO_SUCH_INDEX;
    }

    // ---- clock and events

    public int advance(int seconds) {
        if (!isWithin(seconds, 1, MAX_ADVANCE)) {
            return BAD_VALUE;
        }
        int events = 0;
        for (int second = 0; second < seconds; second++) {
            events += state.runSecond();
        }
        return events;
    }

    public int clock() {
        return state.time;
    }

    public int eventCount() {
        return state.log.count;
    }

    public int eventTime(int index) {
        EventLog log = state.log;
        return log.holds(index) ? log.times[log.placeOf(index)] : NO_SUCH_INDEX;
    }

    public int eventPort(int index) {
        EventLog log = state.log;
        return log.holds(index) ? log.ports[log.placeOf(index)] : NO_SUCH_INDEX;
    }

    public int eventKind(int index) {
        EventLog log = state.log;
        return log.holds(index) ? log.kinds[log.placeOf(index)] : NO_SUCH_INDEX;
    }

    // ---- planning

    public int shedIfFails(int supply) {
        if (!isSupply(supply)) {
            return NO_SUCH_INDEX;
        }
        plan.copyFrom(state);
        plan.works[supply] = false;
        return plan.shedPorts();
    }

    public int fittingPorts() {
        return state.fittingSet();
    }

    public int secondsToStable() {
        return settlePlan();
    }

    public int stablePorts() {
        return settlePlan() == NONE ? NONE : plan.poweredSet();
    }

    // ---- snapshots

    public int save(int slot) {
        if (!isSlot(slot)) {
            return NO_SUCH_INDEX;
        }
        State snapshot = snapshots[slot];
        if (snapshot == null) {
            snapshot = new State();
            snapshots[slot] = snapshot;
        }
        snapshot.copyFrom(state);
        return state.time;
    }

    public int restore(int slot) {
        if (!isSlot(slot)) {
            return NO_SUCH_INDEX;
        }
        State snapshot = snapshots[slot];
        if (snapshot == null) {
            return BAD_STATE;
        }
        state.copyFrom(snapshot);
        return state.time;
    }

    // ---- helpers

    /** Runs the plan until it is stable; returns the seconds that took, or NONE. */
    private int settlePlan() {
        plan.copyFrom(state);
        for (int seconds = 0; seconds <= MAX_SECONDS_TO_STABLE; seconds++) {
            if (plan.isStable()) {
                return seconds;
            }
            plan.runSecond();
        }
        return NONE;
    }

    private static boolean isPort(int port) {
        return isWithin(port, 0, PORTS - 1);
    }

    private static boolean isSupply(int supply) {
        return isWithin(supply, 0, SUPPLIES - 1);
    }

    private static boolean isSlot(int slot) {
        return isWithin(slot, 0, SLOTS - 1);
    }

    private static boolean isWithin(int value, int from, int to) {
        return value >= from && value <= to;
    }

    private static boolean isDetected(int resistance, int capacitance) {
        return isWithin(resistance, DETECTED_RESISTANCE_FROM, DETECTED_RESISTANCE_TO)
                && capacitance <= DETECTED_CAPACITANCE_TO;
    }

    private static int classOf(int current) {
        for (int deviceClass = 0; deviceClass < CLASS_MAXIMUM.length; deviceClass++) {
            if (isWithin(current, CLASS_CURRENT_FROM[deviceClass], CLASS_CURRENT_TO[deviceClass])) {
                return deviceClass;
            }
        }
        return NONE;
    }

    private static int maximumOf(int deviceClass) {
        return isWithin(deviceClass, 0, CLASS_MAXIMUM.length - 1) ? CLASS_MAXIMUM[deviceClass] : 0;
    }

    /** A port with its device, if one is connected, and its power state. */
    private static final class Port {
        boolean enabled = true;
        int priority = LAST_PRIORITY;
        // The fields of the device mean nothing while none is connected.
        boolean connected;
        boolean detected;
        int deviceClass = NONE;
        int load;
        int request;
        int grant;
        int overload;
        int cooldown;

        Port() {
        }

        boolean isPowered() {
            return grant > 0;
        }

        boolean isOverloaded() {
            return isPowered() && load > grant;
        }

        boolean hasRequest() {
            return connected && deviceClass != NONE;
        }

        boolean isEligible() {
            return enabled && connected && detected && deviceClass != NONE;
        }

        boolean canPowerUp(int spare) {
            return isEligible() && !isPowered() && cooldown == 0 && request <= spare;
        }

        void losePower() {
            grant = 0;
            overload = 0;
        }

        void reset() {
            losePower();
            cooldown = 0;
        }

        void copyFrom(Port other) {
            enabled = other.enabled;
            priority = other.priority;
            connected = other.connected;
            detected = other.detected;
            deviceClass = other.deviceClass;
            load = other.load;
            request = other.request;
            grant = other.grant;
            overload = other.overload;
            cooldown = other.cooldown;
        }
    }

    /** The latest events, in rings of which the oldest event is overwritten first. */
    private static final class EventLog {
        final int[] times = new int[LOG_SIZE];
        final int[] ports = new int[LOG_SIZE];
        final int[] kinds = new int[LOG_SIZE];
        int oldest;
        int count;

        EventLog() {
        }

        boolean holds(int index) {
            return index >= 0 && index < count;
        }

        int placeOf(int index) {
            return (oldest + index) % LOG_SIZE;
        }

        void add(int time, int port, int kind) {
            int place = placeOf(count);
            times[place] = time;
            ports[place] = port;
            kinds[place] = kind;
            if (count < LOG_SIZE) {
                count++;
            } else {
                oldest = placeOf(1);
            }
        }

        void copyFrom(EventLog other) {
            System.arraycopy(other.times, 0, times, 0, LOG_SIZE);
            System.arraycopy(other.ports, 0, ports, 0, LOG_SIZE);
            System.arraycopy(other.kinds, 0, kinds, 0, LOG_SIZE);
            oldest = other.oldest;
            count = other.count;
        }
    }

    /** All that a snapshot saves: supplies, settings, ports, clock and event log. */
    private static final class State {
        final int[] capacities = {1500, 0, 0};
        final boolean[] works = {true, true, true};
        final Port[] ports = new Port[PORTS];
        final EventLog log = new EventLog();
        int reserve;
        int restartGap = 2;
        int overloadLimit = 3;
        int cooldownTime = 5;
        int restartTimer;
        int time;

        State() {
            for (int port = 0; port < PORTS; port++) {
                ports[port] = new Port();
            }
        }

        void copyFrom(State other) {
            for (int supply = 0; supply < SUPPLIES; supply++) {
                capacities[supply] = other.capacities[supply];
                works[supply] = other.works[supply];
            }
            for (int port = 0; port < PORTS; port++) {
                ports[port].copyFrom(other.ports[port]);
            }
            log.copyFrom(other.log);
            reserve = other.reserve;
            restartGap = other.restartGap;
            overloadLimit = other.overloadLimit;
            cooldownTime = other.cooldownTime;
            restartTimer = other.restartTimer;
            time = other.time;
        }

        int wholeBudget() {
            int sum = 0;
            for (int supply = 0; supply < SUPPLIES; supply++) {
                if (works[supply]) {
                    sum += capacities[supply];
                }
            }
            return Math.max(0, sum - reserve);
        }

        int sparePower() {
            int spare = wholeBudget();
            for (int port = 0; port < PORTS; port++) {
                spare -= ports[port].grant;
            }
            return spare;
        }

        int eligibleSet() {
            int set = 0;
            for (int port = 0; port < PORTS; port++) {
                if (ports[port].isEligible()) {
                    set |= 1 << port;
                }
            }
            return set;
        }

        int poweredSet() {
            int set = 0;
            for (int port = 0; port < PORTS; port++) {
                if (ports[port].isPowered()) {
                    set |= 1 << port;
                }
            }
            return set;
        }

        int fittingSet() {
            int set = 0;
            int left = wholeBudget();
            for (int priority = 0; priority <= LAST_PRIORITY; priority++) {
                for (int port = 0; port < PORTS; port++) {
                    Port candidate = ports[port];
                    if (candidate.priority == priority && candidate.isEligible()
                            && candidate.request <= left) {
                        set |= 1 << port;
                        left -= candidate.request;
                    }
                }
            }
            return set;
        }

        /** Simulates one second; returns the number of its events. */
        int runSecond() {
            int shed = shedPorts();
            int cut = cutPorts();
            coolDownExcept(cut);
            int poweredUp = powerUp();
            time++;
            return Integer.bitCount(shed) + Integer.bitCount(cut) + poweredUp;
        }

        /** Takes power from the last ports until the rest fits; returns the set of shed ports. */
        int shedPorts() {
            int shed = 0;
            for (int round = 0; round < PORTS && sparePower() < 0; round++) {
                int last = lastPoweredPort();
                if (last != NONE) {
                    ports[last].losePower();
                    log.add(time, last, SHED);
                    shed |= 1 << last;
                }
            }
            return shed;
        }

        private int lastPoweredPort() {
            int last = NONE;
            int lastPriority = 0;
            for (int port = 0; port < PORTS; port++) {
                Port candidate = ports[port];
                // Of equal priorities the larger port number comes later.
                if (candidate.isPowered() && candidate.priority >= lastPriority) {
                    last = port;
                    lastPriority = candidate.priority;
                }
            }
            return last;
        }

        /** Counts overloaded seconds; returns the set of ports that reached the limit. */
        private int cutPorts() {
            int cut = 0;
            for (int port = 0; port < PORTS; port++) {
                Port checked = ports[port];
                checked.overload = checked.isOverloaded() ? checked.overload + 1 : 0;
                if (checked.overload >= overloadLimit) {
                    checked.losePower();
                    checked.cooldown = cooldownTime;
                    log.add(time, port, CUT);
                    cut |= 1 << port;
                }
            }
            return cut;
        }

        private void coolDownExcept(int cut) {
            for (int port = 0; port < PORTS; port++) {
                boolean wasCut = (cut & (1 << port)) != 0;
                if (!wasCut && ports[port].cooldown > 0) {
                    ports[port].cooldown--;
                }
            }
        }

        /** Powers at most one port; returns how many. */
        private int powerUp() {
            if (restartTimer > 0) {
                restartTimer--;
            }
            if (restartTimer > 0) {
                return 0;
            }
            int first = firstPortToPowerUp();
            if (first == NONE) {
                return 0;
            }
            ports[first].grant = ports[first].request;
            restartTimer = restartGap;
            log.add(time, first, POWERED);
            return 1;
        }

        private int firstPortToPowerUp() {
            int first = NONE;
            int firstPriority = LAST_PRIORITY + 1;
            int spare = sparePower();
            for (int port = 0; port < PORTS; port++) {
                Port candidate = ports[port];
                // Of equal priorities the smaller port number comes first.
                if (candidate.priority < firstPriority && candidate.canPowerUp(spare)) {
                    first = port;
                    firstPriority = candidate.priority;
                }
            }
            return first;
        }

        /** True if one more second would change nothing except the clock. */
        boolean isStable() {
            return restartTimer == 0 && sparePower() >= 0 && portsAreCalm()
                    && firstPortToPowerUp() == NONE;
        }

        /** True if no port has a counter that the next second would change. */
        private boolean portsAreCalm() {
            for (int port = 0; port < PORTS; port++) {
                Port checked = ports[port];
                if (checked.cooldown > 0 || checked.overload > 0 || checked.isOverloaded()) {
                    return false;
                }
            }
            return true;
        }
    }
}
