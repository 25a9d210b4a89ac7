/** Promises 1 to 9: a new object, the supplies, the settings and the budget. */
public final class SuppliesTest {
    private static final Check CHECK = new Check("SuppliesTest");
    private static final int LOW = Integer.MIN_VALUE;
    private static final int HIGH = Integer.MAX_VALUE;

    public static void main(String[] args) {
        newObject();
        capacity();
        working();
        reserve();
        settings();
        restartGapAtWork();
        overloadLimitAtWork();
        cooldownTimeAtWork();
        budgetAndAvailable();
        CHECK.end();
    }

    private static void newObject() {
        PoeSwitch x = new PoeSwitch();
        CHECK.due("1 budget", x.budget(), 1500);
        CHECK.due("1 available", x.available(), 1500);
        CHECK.due("1 clock", x.clock(), 0);
        CHECK.due("1 eventCount", x.eventCount(), 0);
        CHECK.due("1 restore(0)", x.restore(0), PoeSwitch.BAD_STATE);
        CHECK.due("1 restore(1)", x.restore(1), PoeSwitch.BAD_STATE);
        CHECK.due("1 eligiblePorts", x.eligiblePorts(), 0);
        CHECK.due("1 poweredPorts", x.poweredPorts(), 0);
        CHECK.due("1 secondsToStable", x.secondsToStable(), 0);
        for (int port = 0; port < 8; port++) {
            CHECK.due("1 grant", x.grant(port), 0);
            CHECK.due("1 overload", x.overload(port), 0);
            CHECK.due("1 cooldown", x.cooldown(port), 0);
            CHECK.due("1 request", x.request(port), PoeSwitch.NONE);
            CHECK.due("1 disconnect", x.disconnect(port), PoeSwitch.BAD_STATE);
            CHECK.due("1 setEnabled", x.setEnabled(port, true), 1);
            CHECK.due("1 setPriority", x.setPriority(port, 2), 2);
        }
        CHECK.due("1 capacity of 0", x.setCapacity(0, 0), 1500);
        CHECK.due("1 capacity of 1", x.setCapacity(1, 0), 0);
        CHECK.due("1 capacity of 2", x.setCapacity(2, 0), 0);
        for (int supply = 0; supply < 3; supply++) {
            CHECK.due("1 working", x.setWorking(supply, true), 1);
        }
        CHECK.due("1 reserve", x.setReserve(0), 0);
        CHECK.due("1 restart gap", x.setRestartGap(2), 2);
        CHECK.due("1 overload limit", x.setOverloadLimit(3), 3);
        CHECK.due("1 cooldown time", x.setCooldownTime(5), 5);
    }

    private static void capacity() {
        PoeSwitch x = new PoeSwitch();
        int[] wrongSupplies = {-1, 3, LOW, HIGH};
        for (int supply : wrongSupplies) {
            CHECK.due("2 wrong supply", x.setCapacity(supply, 10), PoeSwitch.NO_SUCH_INDEX);
            CHECK.due("2 both wrong", x.setCapacity(supply, -1), PoeSwitch.NO_SUCH_INDEX);
        }
        int[] wrongCapacities = {-1, 3001, LOW, HIGH};
        for (int capacity : wrongCapacities) {
            CHECK.due("2 wrong capacity", x.setCapacity(1, capacity), PoeSwitch.BAD_VALUE);
        }
        CHECK.due("2 errors change nothing", x.budget(), 1500);
        for (int supply = 0; supply < 3; supply++) {
            CHECK.due("2 set", x.setCapacity(supply, 3000), supply == 0 ? 1500 : 0);
            CHECK.due("2 set lowest", x.setCapacity(supply, 0), 3000);
            CHECK.due("2 set own value", x.setCapacity(supply, 100 + supply), 0);
        }
        CHECK.due("2 all capacities count", x.budget(), 303);
        for (int supply = 0; supply < 3; supply++) {
            CHECK.due("2 each supply has its own", x.setCapacity(supply, 3000), 100 + supply);
        }
        CHECK.due("2 largest budget", x.budget(), 9000);
    }

    private static void working() {
        PoeSwitch x = new PoeSwitch();
        int[] wrongSupplies = {-1, 3, LOW, HIGH};
        for (int supply : wrongSupplies) {
            CHECK.due("3 wrong supply", x.setWorking(supply, false), PoeSwitch.NO_SUCH_INDEX);
        }
        x.connect(0, 200, 0, 0, 10);
        x.advance(1);
        CHECK.due("3 fails", x.setWorking(0, false), 1);
        CHECK.due("3 nothing is shed yet", x.poweredPorts(), 1);
        CHECK.due("3 no budget", x.budget(), 0);
        CHECK.due("3 available", x.available(), -154);
        CHECK.due("3 fails again", x.setWorking(0, false), 0);
        CHECK.due("3 capacity while failed", x.setCapacity(0, 1000), 1500);
        CHECK.due("3 still no budget", x.budget(), 0);
        CHECK.due("3 shed in the next second", x.advance(1), 1);
        CHECK.due("3 shed", x.poweredPorts(), 0);
        CHECK.due("3 works", x.setWorking(0, true), 0);
        CHECK.due("3 works again", x.setWorking(0, true), 1);
        CHECK.due("3 budget is back", x.budget(), 1000);
        CHECK.due("3 another supply", x.setWorking(2, false), 1);
        CHECK.due("3 does not touch supply 0", x.budget(), 1000);
        x.setCapacity(1, 20);
        x.setCapacity(2, 300);
        CHECK.due("3 failed 2 does not count", x.budget(), 1020);
        x.setWorking(2, true);
        CHECK.due("3 working 2 counts", x.budget(), 1320);
    }

    private static void reserve() {
        PoeSwitch x = new PoeSwitch();
        int[] wrongReserves = {-1, 3001, LOW, HIGH};
        for (int reserve : wrongReserves) {
            CHECK.due("4 wrong reserve", x.setReserve(reserve), PoeSwitch.BAD_VALUE);
        }
        CHECK.due("4 set", x.setReserve(100), 0);
        CHECK.due("4 budget", x.budget(), 1400);
        CHECK.due("4 highest", x.setReserve(3000), 100);
        CHECK.due("4 budget is never negative", x.budget(), 0);
        CHECK.due("4 available with no budget", x.available(), 0);
        CHECK.due("4 lowest", x.setReserve(0), 3000);
        CHECK.due("4 budget is back", x.budget(), 1500);
    }

    private static void settings() {
        PoeSwitch x = new PoeSwitch();
        int[] wrongs = {0, -1, LOW, HIGH};
        for (int seconds : wrongs) {
            CHECK.due("5 wrong gap", x.setRestartGap(seconds), PoeSwitch.BAD_VALUE);
            CHECK.due("6 wrong limit", x.setOverloadLimit(seconds), PoeSwitch.BAD_VALUE);
            CHECK.due("7 wrong time", x.setCooldownTime(seconds), PoeSwitch.BAD_VALUE);
        }
        CHECK.due("5 too large", x.setRestartGap(31), PoeSwitch.BAD_VALUE);
        CHECK.due("6 too large", x.setOverloadLimit(31), PoeSwitch.BAD_VALUE);
        CHECK.due("7 too large", x.setCooldownTime(61), PoeSwitch.BAD_VALUE);
        CHECK.due("5 highest", x.setRestartGap(30), 2);
        CHECK.due("5 lowest", x.setRestartGap(1), 30);
        CHECK.due("5 kept", x.setRestartGap(7), 1);
        CHECK.due("6 highest", x.setOverloadLimit(30), 3);
        CHECK.due("6 lowest", x.setOverloadLimit(1), 30);
        CHECK.due("6 kept", x.setOverloadLimit(8), 1);
        CHECK.due("7 highest", x.setCooldownTime(60), 5);
        CHECK.due("7 lowest", x.setCooldownTime(1), 60);
        CHECK.due("7 kept", x.setCooldownTime(9), 1);
        CHECK.due("5 not mixed up", x.setRestartGap(2), 7);
        CHECK.due("6 not mixed up", x.setOverloadLimit(3), 8);
        CHECK.due("7 not mixed up", x.setCooldownTime(5), 9);
    }

    private static void restartGapAtWork() {
        PoeSwitch x = new PoeSwitch();
        x.connect(0, 200, 0, 0, 10);
        x.connect(1, 200, 0, 0, 10);
        x.connect(2, 200, 0, 0, 10);
        x.setRestartGap(4);
        CHECK.due("5 first at once", x.advance(1), 1);
        x.setRestartGap(1);
        CHECK.due("5 running timer stays", x.advance(3), 0);
        CHECK.due("5 second after 4", x.advance(1), 1);
        CHECK.due("5 third after 1", x.advance(1), 1);
        CHECK.due("5 all", x.poweredPorts(), 7);
        CHECK.due("5 time of the second", x.eventTime(1), 4);
        CHECK.due("5 time of the third", x.eventTime(2), 5);
    }

    private static void overloadLimitAtWork() {
        PoeSwitch x = new PoeSwitch();
        x.connect(0, 200, 0, 10, 41);
        x.setOverloadLimit(30);
        CHECK.due("6 not cut before the limit", x.advance(30), 1);
        CHECK.due("6 counter", x.overload(0), 29);
        x.setOverloadLimit(5);
        CHECK.due("6 a lower limit cuts", x.advance(1), 1);
        CHECK.due("6 is a cut", x.eventKind(1), PoeSwitch.CUT);
        PoeSwitch y = new PoeSwitch();
        y.connect(0, 200, 0, 10, 41);
        y.advance(3);
        CHECK.due("6 counter before", y.overload(0), 2);
        y.setOverloadLimit(1);
        CHECK.due("6 setting alone cuts nothing", y.poweredPorts(), 1);
        y.setLoad(0, 40);
        CHECK.due("6 calm again, so not cut", y.advance(1), 0);
        CHECK.due("6 counter is back to 0", y.overload(0), 0);
    }

    private static void cooldownTimeAtWork() {
        PoeSwitch x = new PoeSwitch();
        x.connect(0, 200, 0, 10, 41);
        x.setCooldownTime(60);
        x.advance(4);
        CHECK.due("7 cooldown", x.cooldown(0), 60);
        x.setCooldownTime(1);
        CHECK.due("7 running cooldown stays", x.cooldown(0), 60);
        CHECK.due("7 until the end", x.advance(59), 0);
        CHECK.due("7 powered at 0", x.advance(1), 1);
        x.advance(3);
        CHECK.due("7 new time for the next", x.cooldown(0), 1);
    }

    private static void budgetAndAvailable() {
        PoeSwitch x = new PoeSwitch();
        x.setCapacity(0, 400);
        x.connect(3, 200, 0, 40, 10);
        x.connect(6, 200, 0, 17, 10);
        x.advance(3);
        CHECK.due("8 budget does not depend on grants", x.budget(), 400);
        CHECK.due("9 available", x.available(), 30);
        x.setCapacity(0, 100);
        CHECK.due("8 budget", x.budget(), 100);
        CHECK.due("9 negative", x.available(), -270);
        x.setReserve(200);
        CHECK.due("8 at least 0", x.budget(), 0);
        CHECK.due("9 budget of 0 less the grants", x.available(), -370);
        x.advance(1);
        CHECK.due("9 not negative after a second", x.available(), 0);
    }
}
