/** Promises 18 to 27: power state, the simulated second, the clock and the event log. */
public final class PowerTest {
    private static final Check CHECK = new Check("PowerTest");
    private static final int[] NO_PORTS = {-1, 8, Integer.MIN_VALUE, Integer.MAX_VALUE};

    public static void main(String[] args) {
        wrongInputs();
        powerUpOrder();
        powerUpSkipsWhatDoesNotFit();
        smallestGrant();
        sheddingOrder();
        allAreShed();
        shedPortIsPoweredAgain();
        overloadAndCooldown();
        cutsInPortOrder();
        cutPortKeepsItsCooldown();
        cooldownEndsWhileTheTimerRuns();
        stepsInOneSecond();
        logKeepsTheLatest();
        CHECK.end();
    }

    private static void event(PoeSwitch x, int index, int time, int port, int kind) {
        CHECK.due("25 time of event " + index, x.eventTime(index), time);
        CHECK.due("26 port of event " + index, x.eventPort(index), port);
        CHECK.due("27 kind of event " + index, x.eventKind(index), kind);
    }

    private static void wrongInputs() {
        PoeSwitch x = new PoeSwitch();
        for (int port : NO_PORTS) {
            CHECK.due("19 no port", x.grant(port), PoeSwitch.NO_SUCH_INDEX);
            CHECK.due("20 no port", x.overload(port), PoeSwitch.NO_SUCH_INDEX);
            CHECK.due("21 no port", x.cooldown(port), PoeSwitch.NO_SUCH_INDEX);
        }
        int[] wrong = {0, 61, -1, Integer.MIN_VALUE, Integer.MAX_VALUE};
        for (int seconds : wrong) {
            CHECK.due("22 wrong", x.advance(seconds), PoeSwitch.BAD_VALUE);
        }
        CHECK.due("23 errors leave the clock", x.clock(), 0);
        x.connect(0, 200, 0, 0, 0);
        CHECK.due("22 shortest", x.advance(1), 1);
        CHECK.due("23 clock", x.clock(), 1);
        CHECK.due("22 longest", x.advance(60), 0);
        CHECK.due("23 clock", x.clock(), 61);
        int[] noEvents = {-1, 1, 15, 16, Integer.MIN_VALUE, Integer.MAX_VALUE};
        for (int index : noEvents) {
            event(x, index, PoeSwitch.NO_SUCH_INDEX, PoeSwitch.NO_SUCH_INDEX, PoeSwitch.NO_SUCH_INDEX);
        }
        event(x, 0, 0, 0, PoeSwitch.POWERED);
    }

    private static void powerUpOrder() {
        PoeSwitch x = new PoeSwitch();
        int[] priorities = {2, 1, 0, 2, 1, 0, 2, 1};
        for (int port = 0; port < 8; port++) {
            x.connect(port, 200, 0, 0, 154);
            x.setPriority(port, priorities[port]);
        }
        int[] order = {2, 5, 1, 4, 7, 0, 3, 6};
        int powered = 0;
        for (int i = 0; i < 8; i++) {
            CHECK.due("22 one at a time", x.advance(1), 1);
            powered |= 1 << order[i];
            CHECK.due("18 powered", x.poweredPorts(), powered);
            CHECK.due("19 grant", x.grant(order[i]), 154);
            CHECK.due("24 events", x.eventCount(), i + 1);
            event(x, i, 2 * i, order[i], PoeSwitch.POWERED);
            CHECK.due("22 gap", x.advance(1), 0);
        }
        CHECK.due("9 available", x.available(), 1500 - 8 * 154);
        CHECK.due("22 calm", x.advance(60), 0);
        CHECK.due("20 a load equal to the grant is no overload", x.overload(0), 0);
    }

    private static void powerUpSkipsWhatDoesNotFit() {
        PoeSwitch x = new PoeSwitch();
        x.setCapacity(0, 224);
        x.connect(0, 200, 0, 36, 0);
        x.setPriority(0, 0);
        x.connect(1, 200, 0, 0, 0);
        x.connect(2, 200, 0, 26, 0);
        x.connect(3, 200, 0, 17, 0);
        CHECK.due("22 two fit", x.advance(60), 2);
        CHECK.due("18 the first that fits, then the rest", x.poweredPorts(), 2 + 8);
        CHECK.due("9 exactly", x.available(), 0);
        CHECK.due("19 unpowered", x.grant(0), 0);
        event(x, 0, 0, 1, PoeSwitch.POWERED);
        event(x, 1, 2, 3, PoeSwitch.POWERED);
    }

    private static void smallestGrant() {
        PoeSwitch x = new PoeSwitch();
        x.setCapacity(0, 1);
        x.connect(5, 200, 0, 9, 1);
        x.setRequest(5, 1);
        CHECK.due("22 a request of 1", x.advance(5), 1);
        CHECK.due("18 powered", x.poweredPorts(), 32);
        CHECK.due("19 grant", x.grant(5), 1);
        CHECK.due("20 load equal to it", x.overload(5), 0);
        x.setLoad(5, 2);
        x.advance(1);
        CHECK.due("20 load above it", x.overload(5), 1);
        CHECK.due("13 was powered", x.disconnect(5), 1);
    }

    private static void sheddingOrder() {
        PoeSwitch x = new PoeSwitch();
        int[] priorities = {0, 2, 1, 2, 0};
        for (int port = 0; port < 5; port++) {
            x.connect(port, 200, 0, 36, 0);
            x.setPriority(port, priorities[port]);
        }
        x.advance(60);
        CHECK.due("18 all", x.poweredPorts(), 31);
        x.setCapacity(0, 600);
        CHECK.due("22 three are shed", x.advance(1), 3);
        event(x, 5, 60, 3, PoeSwitch.SHED);
        event(x, 6, 60, 1, PoeSwitch.SHED);
        event(x, 7, 60, 2, PoeSwitch.SHED);
        CHECK.due("18 critical ones stay", x.poweredPorts(), 17);
        x.setCapacity(0, 599);
        CHECK.due("22 one more", x.advance(1), 1);
        event(x, 8, 61, 4, PoeSwitch.SHED);
        CHECK.due("21 shedding is no cooldown", x.cooldown(4), 0);
        x.setWorking(0, false);
        CHECK.due("22 the last one", x.advance(1), 1);
        CHECK.due("18 none", x.poweredPorts(), 0);
    }

    private static void allAreShed() {
        PoeSwitch x = new PoeSwitch();
        for (int port = 0; port < 8; port++) {
            x.connect(port, 200, 0, 9, 0);
        }
        x.advance(20);
        CHECK.due("18 all", x.poweredPorts(), 255);
        x.setWorking(0, false);
        CHECK.due("28 all", x.shedIfFails(0), 255);
        CHECK.due("22 all are shed", x.advance(1), 8);
        CHECK.due("18 none", x.poweredPorts(), 0);
        for (int i = 0; i < 8; i++) {
            event(x, 8 + i, 20, 7 - i, PoeSwitch.SHED);
        }
    }

    private static void shedPortIsPoweredAgain() {
        PoeSwitch x = new PoeSwitch();
        x.setCapacity(0, 340);
        x.connect(0, 200, 0, 36, 0);
        x.setPriority(0, 0);
        x.connect(1, 200, 0, 9, 41);
        x.advance(4);
        CHECK.due("18 both", x.poweredPorts(), 3);
        CHECK.due("20 counter", x.overload(1), 1);
        x.setCapacity(0, 290);
        CHECK.due("22 both shed, one back", x.advance(1), 3);
        event(x, 2, 4, 1, PoeSwitch.SHED);
        event(x, 3, 4, 0, PoeSwitch.SHED);
        event(x, 4, 4, 1, PoeSwitch.POWERED);
        CHECK.due("18 the small one", x.poweredPorts(), 2);
        CHECK.due("20 its counter starts anew", x.overload(1), 0);
    }

    private static void overloadAndCooldown() {
        PoeSwitch x = new PoeSwitch();
        x.connect(2, 200, 0, 9, 41);
        x.advance(1);
        CHECK.due("20 not in the second of power-up", x.overload(2), 0);
        x.advance(1);
        CHECK.due("20 first", x.overload(2), 1);
        x.setLoad(2, 40);
        x.advance(1);
        CHECK.due("20 back to 0", x.overload(2), 0);
        x.setLoad(2, 999);
        x.advance(2);
        CHECK.due("20 again", x.overload(2), 2);
        CHECK.due("18 still powered", x.poweredPorts(), 4);
        CHECK.due("22 cut", x.advance(1), 1);
        event(x, 1, 5, 2, PoeSwitch.CUT);
        CHECK.due("18 not powered", x.poweredPorts(), 0);
        CHECK.due("19 no grant", x.grant(2), 0);
        CHECK.due("20 no counter", x.overload(2), 0);
        for (int left = 5; left > 1; left--) {
            CHECK.due("21 cooldown", x.cooldown(2), left);
            CHECK.due("22 waits", x.advance(1), 0);
        }
        CHECK.due("21 last second", x.cooldown(2), 1);
        CHECK.due("22 powered when it reaches 0", x.advance(1), 1);
        event(x, 2, 10, 2, PoeSwitch.POWERED);
        CHECK.due("21 no cooldown", x.cooldown(2), 0);
    }

    private static void cutsInPortOrder() {
        PoeSwitch x = new PoeSwitch();
        x.setOverloadLimit(30);
        x.setRestartGap(1);
        x.connect(5, 200, 0, 9, 50);
        x.setPriority(5, 0);
        x.connect(1, 200, 0, 9, 50);
        x.connect(3, 200, 0, 9, 50);
        x.advance(5);
        x.setOverloadLimit(2);
        CHECK.due("22 three cuts", x.advance(1), 3);
        event(x, 3, 5, 1, PoeSwitch.CUT);
        event(x, 4, 5, 3, PoeSwitch.CUT);
        event(x, 5, 5, 5, PoeSwitch.CUT);
    }

    private static void cutPortKeepsItsCooldown() {
        PoeSwitch x = new PoeSwitch();
        x.setOverloadLimit(1);
        x.setCooldownTime(1);
        x.setRestartGap(1);
        x.connect(0, 200, 0, 9, 41);
        CHECK.due("22 powered", x.advance(1), 1);
        CHECK.due("22 cut", x.advance(1), 1);
        CHECK.due("21 not lowered in the second of the cut", x.cooldown(0), 1);
        CHECK.due("22 powered again", x.advance(1), 1);
        CHECK.due("27 kind", x.eventKind(2), PoeSwitch.POWERED);
    }

    private static void cooldownEndsWhileTheTimerRuns() {
        PoeSwitch x = new PoeSwitch();
        x.setRestartGap(30);
        x.connect(0, 200, 0, 9, 41);
        CHECK.due("22 up and cut", x.advance(4), 2);
        x.advance(5);
        CHECK.due("21 over", x.cooldown(0), 0);
        CHECK.due("22 the timer still runs", x.advance(21), 0);
        CHECK.due("22 then it is powered", x.advance(1), 1);
        CHECK.due("25 time", x.eventTime(2), 30);
    }

    private static void stepsInOneSecond() {
        PoeSwitch x = new PoeSwitch();
        x.setCapacity(0, 340);
        x.connect(0, 200, 0, 36, 0);
        x.setPriority(0, 0);
        x.connect(1, 200, 0, 9, 41);
        x.advance(5);
        CHECK.due("20 before its last second", x.overload(1), 2);
        x.setCapacity(0, 300);
        CHECK.due("22 shed before it is cut", x.advance(1), 1);
        event(x, 2, 5, 1, PoeSwitch.SHED);
        CHECK.due("21 so it has no cooldown", x.cooldown(1), 0);
        PoeSwitch y = new PoeSwitch();
        y.setCapacity(0, 40);
        y.setRestartGap(1);
        y.connect(0, 200, 0, 9, 41);
        y.connect(1, 200, 0, 9, 40);
        y.advance(3);
        CHECK.due("22 a cut makes room in the same second", y.advance(1), 2);
        event(y, 1, 3, 0, PoeSwitch.CUT);
        event(y, 2, 3, 1, PoeSwitch.POWERED);
    }

    private static void logKeepsTheLatest() {
        PoeSwitch x = new PoeSwitch();
        x.setOverloadLimit(1);
        x.setCooldownTime(1);
        x.setRestartGap(1);
        x.connect(4, 200, 0, 9, 41);
        for (int i = 0; i < 40; i++) {
            CHECK.due("22 one event", x.advance(1), 1);
            int count = Math.min(i + 1, 16);
            CHECK.due("24 count", x.eventCount(), count);
            int oldest = i + 1 - count;
            event(x, 0, oldest, 4, oldest % 2 == 0 ? PoeSwitch.POWERED : PoeSwitch.CUT);
            event(x, count - 1, i, 4, i % 2 == 0 ? PoeSwitch.POWERED : PoeSwitch.CUT);
            event(x, count, PoeSwitch.NO_SUCH_INDEX, PoeSwitch.NO_SUCH_INDEX, PoeSwitch.NO_SUCH_INDEX);
        }
        CHECK.due("22 counts what the log drops", x.advance(60), 60);
        CHECK.due("23 clock", x.clock(), 100);
        for (int index = 0; index < 16; index++) {
            event(x, index, 84 + index, 4, index % 2 == 0 ? PoeSwitch.POWERED : PoeSwitch.CUT);
        }
    }
}
