/** Switches in chosen states, and ways to see all of a switch by its public face alone. */
final class Lab {
    /** Classification currents that give the class of the name. */
    static final int CLASS_0 = 0;
    static final int CLASS_1 = 10;
    static final int CLASS_2 = 18;
    static final int CLASS_3 = 28;
    static final int CLASS_4 = 40;
    static final int NO_CLASS = 6;

    private Lab() {
    }

    /** A call on a switch. */
    interface Call {
        int on(PoeSwitch x);
    }

    /** Values next to a range and far from it, also such as a narrower type would take for small. */
    static int[] outside(int from, int to) {
        return new int[] {from - 1, to + 1, from - 2, to + 2, from - 256, to + 256, 65536, 1 << 16 | to,
            Integer.MIN_VALUE, Integer.MIN_VALUE + to, Integer.MAX_VALUE};
    }

    /** Connects a device that is detected. */
    static void plug(PoeSwitch x, int port, int current, int load) {
        x.connect(port, 200, 0, current, load);
    }

    /** Connects devices of class 1, which ask for 40 and draw nothing, to the first ports. */
    static PoeSwitch withSmallDevices(int count) {
        PoeSwitch x = new PoeSwitch();
        for (int port = 0; port < count; port++) {
            plug(x, port, CLASS_1, 0);
        }
        return x;
    }

    /** The first ports have devices of class 1 and are powered, and the restart timer is 0. */
    static PoeSwitch withSmallDevicesPowered(int count) {
        PoeSwitch x = withSmallDevices(count);
        x.advance(20);
        return x;
    }

    /** Port 0 has an overloaded device of class 1 and causes an event in each second. */
    static PoeSwitch withAnEventEachSecond() {
        PoeSwitch x = new PoeSwitch();
        x.setOverloadLimit(1);
        x.setCooldownTime(1);
        x.setRestartGap(1);
        plug(x, 0, CLASS_1, 41);
        return x;
    }

    /**
     * A switch with a bit of everything at clock 8: ports 0 and 2 are powered, 2 has overload counter
     * 2, 1 has cooldown 4, 3 and 6 are disabled, 4 is not detected, 5 has no class, 7 is empty; supply
     * 2 has failed, 40 is available, the restart timer is 2; slot 0 has the state of clock 6, slot 1
     * has none.
     */
    static PoeSwitch busy() {
        PoeSwitch x = new PoeSwitch();
        x.setCapacity(0, 600);
        x.setCapacity(1, 100);
        x.setCapacity(2, 50);
        x.setWorking(2, false);
        x.setReserve(340);
        x.setRestartGap(3);
        x.setOverloadLimit(4);
        x.setCooldownTime(7);
        plug(x, 0, CLASS_4, 100);
        x.setRequest(0, 250);
        plug(x, 1, CLASS_1, 41);
        x.setPriority(1, 0);
        plug(x, 2, CLASS_2, 60);
        x.setPriority(2, 1);
        plug(x, 3, CLASS_0, 10);
        x.setEnabled(3, false);
        x.connect(4, 100, 0, CLASS_3, 11);
        plug(x, 5, NO_CLASS, 12);
        x.setEnabled(6, false);
        x.advance(6);
        x.save(0);
        x.setLoad(2, 71);
        x.advance(2);
        return x;
    }

    /** What can be asked without a change. */
    static String look(PoeSwitch x) {
        StringBuilder seen = new StringBuilder();
        note(seen, x.budget(), x.available(), x.eligiblePorts(), x.poweredPorts(), x.clock());
        for (int port = 0; port < 8; port++) {
            note(seen, x.request(port), x.grant(port), x.overload(port), x.cooldown(port));
        }
        int count = x.eventCount();
        note(seen, count);
        for (int index = 0; index < count; index++) {
            note(seen, x.eventTime(index), x.eventPort(index), x.eventKind(index));
        }
        return seen.toString();
    }

    /** All of a switch, its next seconds and its snapshots too; the switch is of no use afterwards. */
    static String whole(PoeSwitch x) {
        StringBuilder seen = new StringBuilder(look(x));
        noteSettings(seen, x);
        notePorts(seen, x);
        // A small device is powered as soon as the restart timer is 0, and so tells its value.
        note(seen, x.connect(7, 200, 0, CLASS_1, 0), x.setRequest(7, 1));
        for (int second = 0; second < 30; second++) {
            note(seen, x.advance(1), x.poweredPorts());
        }
        seen.append(look(x));
        note(seen, x.restore(0));
        seen.append(look(x));
        note(seen, x.restore(1));
        return seen.toString();
    }

    private static void noteSettings(StringBuilder seen, PoeSwitch x) {
        for (int supply = 0; supply < 3; supply++) {
            int capacity = x.setCapacity(supply, 0);
            x.setCapacity(supply, capacity);
            int working = x.setWorking(supply, true);
            x.setWorking(supply, working == 1);
            note(seen, capacity, working);
        }
        int reserve = x.setReserve(0);
        x.setReserve(reserve);
        int gap = x.setRestartGap(1);
        x.setRestartGap(gap);
        int limit = x.setOverloadLimit(1);
        x.setOverloadLimit(limit);
        int time = x.setCooldownTime(1);
        x.setCooldownTime(time);
        note(seen, reserve, gap, limit, time);
    }

    private static void notePorts(StringBuilder seen, PoeSwitch x) {
        for (int port = 0; port < 8; port++) {
            int enabled = x.setEnabled(port, true);
            x.setEnabled(port, enabled == 1);
            int priority = x.setPriority(port, 0);
            x.setPriority(port, priority);
            int load = x.setLoad(port, 0);
            x.setLoad(port, load);
            note(seen, enabled, priority, load);
        }
    }

    private static void note(StringBuilder seen, int... answers) {
        for (int answer : answers) {
            seen.append(answer).append(' ');
        }
    }

    /** The event at an index is the one that is due. */
    static void event(Check check, PoeSwitch x, int index, int time, int port, int kind) {
        check.due("eventTime(" + index + ")", x.eventTime(index), time);
        check.due("eventPort(" + index + ")", x.eventPort(index), port);
        check.due("eventKind(" + index + ")", x.eventKind(index), kind);
    }

    /** The call answers as due and leaves a busy switch, its future and its snapshots, as they were. */
    static void changesNothing(Check check, String name, Call call, int want) {
        PoeSwitch asked = busy();
        check.due(name, call.on(asked), want);
        check.due(name + " changes nothing", whole(asked).equals(whole(busy())) ? 1 : 0, 1);
    }
}
