/** Promises 28 to 31: planning, which changes nothing. */
public final class PlanningTest {
    private static final Check CHECK = new Check("PlanningTest");

    public static void main(String[] args) {
        shedIfFails();
        shedAlthoughPoweredAgain();
        fitting();
        stableAtOnce();
        stableAfterCounters();
        stableAfterManyGaps();
        stableAtTheLimit();
        neverStable();
        planningChangesNothing();
        CHECK.end();
    }

    private static void shedIfFails() {
        PoeSwitch x = new PoeSwitch();
        int[] wrong = {-1, 3, Integer.MIN_VALUE, Integer.MAX_VALUE};
        for (int supply : wrong) {
            CHECK.due("28 no supply", x.shedIfFails(supply), PoeSwitch.NO_SUCH_INDEX);
        }
        CHECK.due("28 nothing powered", x.shedIfFails(0), 0);
        x.setCapacity(0, 300);
        x.setCapacity(1, 154);
        x.setCapacity(2, 154);
        x.connect(0, 200, 0, 0, 0);
        x.connect(1, 200, 0, 0, 0);
        x.connect(2, 200, 0, 0, 0);
        x.setPriority(2, 0);
        x.advance(10);
        CHECK.due("18 all powered", x.poweredPorts(), 7);
        CHECK.due("28 supply 0", x.shedIfFails(0), 2);
        CHECK.due("28 supply 1", x.shedIfFails(1), 2);
        x.setReserve(146);
        CHECK.due("28 with a reserve", x.shedIfFails(0), 3);
        CHECK.due("28 supply 2", x.shedIfFails(2), 2);
        x.setReserve(147);
        CHECK.due("28 one less", x.shedIfFails(2), 3);
        x.setReserve(3000);
        CHECK.due("28 what is due anyway", x.shedIfFails(2), 7);
        x.setReserve(0);
        x.setWorking(1, false);
        CHECK.due("28 failed already", x.shedIfFails(1), 2);
        CHECK.due("28 two failures", x.shedIfFails(0), 3);
        CHECK.due("28 changes nothing", x.poweredPorts(), 7);
        CHECK.due("28 the supply still works", x.setWorking(0, false), 1);
        x.advance(1);
        CHECK.due("28 as foretold", x.poweredPorts(), 4);
    }

    private static void shedAlthoughPoweredAgain() {
        PoeSwitch x = new PoeSwitch();
        x.setCapacity(0, 290);
        x.setCapacity(1, 50);
        x.connect(0, 200, 0, 36, 0);
        x.setPriority(0, 0);
        x.connect(1, 200, 0, 9, 0);
        x.advance(5);
        CHECK.due("28 both are shed", x.shedIfFails(1), 3);
        x.setWorking(1, false);
        x.advance(1);
        CHECK.due("28 one of them is powered again", x.poweredPorts(), 2);
    }

    private static void fitting() {
        PoeSwitch x = new PoeSwitch();
        x.setCapacity(0, 264);
        x.connect(0, 200, 0, 0, 0);
        x.connect(1, 200, 0, 36, 0);
        x.connect(2, 200, 0, 17, 0);
        x.connect(3, 200, 0, 9, 0);
        x.connect(4, 189, 0, 9, 0);
        CHECK.due("29 one is skipped, the rest fits exactly", x.fittingPorts(), 1 + 4 + 8);
        x.setReserve(1);
        CHECK.due("29 one less", x.fittingPorts(), 1 + 4);
        x.setReserve(0);
        x.setPriority(3, 0);
        x.setPriority(2, 1);
        CHECK.due("29 priority order", x.fittingPorts(), 1 + 4 + 8);
        x.setCapacity(0, 110);
        CHECK.due("29 the first two", x.fittingPorts(), 4 + 8);
        x.setCapacity(0, 109);
        CHECK.due("29 the first only", x.fittingPorts(), 8);
        x.setRequest(2, 69);
        CHECK.due("29 by request", x.fittingPorts(), 4 + 8);
        x.setEnabled(3, false);
        CHECK.due("29 eligible ones only", x.fittingPorts(), 4);
        x.advance(1);
        CHECK.due("18 powered", x.poweredPorts(), 4);
        x.setEnabled(3, true);
        CHECK.due("29 starts with no grants", x.fittingPorts(), 4 + 8);
        x.setWorking(0, false);
        CHECK.due("29 no budget", x.fittingPorts(), 0);
    }

    private static void stableAtOnce() {
        PoeSwitch x = new PoeSwitch();
        CHECK.due("30 empty", x.secondsToStable(), 0);
        CHECK.due("31 empty", x.stablePorts(), 0);
        x.connect(0, 200, 0, 36, 0);
        x.setCapacity(0, 299);
        CHECK.due("30 does not fit", x.secondsToStable(), 0);
        x.setCapacity(0, 300);
        CHECK.due("30 power-up and its timer", x.secondsToStable(), 3);
        CHECK.due("31 powered", x.stablePorts(), 1);
        x.advance(2);
        CHECK.due("30 timer at 1", x.secondsToStable(), 1);
        x.advance(1);
        CHECK.due("30 timer at 0", x.secondsToStable(), 0);
        CHECK.due("31 powered", x.stablePorts(), 1);
        x.setCapacity(0, 299);
        CHECK.due("30 to be shed", x.secondsToStable(), 1);
        CHECK.due("31 shed", x.stablePorts(), 0);
    }

    private static void stableAfterCounters() {
        PoeSwitch x = new PoeSwitch();
        x.connect(0, 200, 0, 9, 41);
        x.setOverloadLimit(30);
        x.advance(10);
        CHECK.due("20 counter", x.overload(0), 9);
        CHECK.due("30 it goes on and on", x.secondsToStable(), PoeSwitch.NONE);
        x.setLoad(0, 40);
        CHECK.due("30 the counter falls to 0", x.secondsToStable(), 1);
        CHECK.due("31 powered", x.stablePorts(), 1);
        x.advance(1);
        CHECK.due("30 it is 0", x.secondsToStable(), 0);
        x.setLoad(0, 41);
        x.advance(1);
        x.setLoad(0, 40);
        CHECK.due("30 a counter of 1 falls too", x.secondsToStable(), 1);
        x.setLoad(0, 41);
        x.setOverloadLimit(1);
        x.advance(1);
        CHECK.due("21 cooldown", x.cooldown(0), 5);
        x.setCapacity(0, 0);
        CHECK.due("30 the cooldown falls to 0", x.secondsToStable(), 5);
        CHECK.due("31 no power", x.stablePorts(), 0);
        x.setCapacity(0, 40);
        x.setLoad(0, 40);
        CHECK.due("30 cooldown, power-up, timer", x.secondsToStable(), 7);
        CHECK.due("31 powered again", x.stablePorts(), 1);
    }

    private static void stableAfterManyGaps() {
        PoeSwitch x = new PoeSwitch();
        x.setCapacity(0, 3000);
        x.setRestartGap(30);
        for (int port = 0; port < 8; port++) {
            x.connect(port, 200, 0, 9, 0);
        }
        CHECK.due("30 eight gaps", x.secondsToStable(), 1 + 8 * 30);
        CHECK.due("31 all", x.stablePorts(), 255);

        PoeSwitch y = new PoeSwitch();
        y.setRestartGap(30);
        y.setOverloadLimit(1);
        y.setCooldownTime(60);
        y.connect(0, 200, 0, 9, 41);
        CHECK.due("22 up and cut", y.advance(2), 2);
        y.setLoad(0, 0);
        for (int port = 1; port < 8; port++) {
            y.connect(port, 200, 0, 9, 0);
        }
        CHECK.due("30 the timer at 29, then eight gaps", y.secondsToStable(), 29 + 8 * 30);
        CHECK.due("31 all", y.stablePorts(), 255);
    }

    /**
     * Port 0 is powered, cut after 30 seconds and ready again after 60 more, four times; meanwhile
     * the seven others take the budget, the last of them in second 301. The switch is stable when
     * the last cooldown of port 0 ends, in second 361.
     */
    private static void stableAtTheLimit() {
        PoeSwitch x = new PoeSwitch();
        x.setCapacity(0, 280);
        x.setRestartGap(30);
        x.setOverloadLimit(30);
        x.setCooldownTime(60);
        x.setPriority(0, 0);
        x.connect(0, 200, 0, 9, 41);
        for (int port = 1; port < 8; port++) {
            x.connect(port, 200, 0, 9, 40);
        }
        CHECK.due("30 361 seconds", x.secondsToStable(), PoeSwitch.NONE);
        x.advance(60);
        CHECK.due("30 301 seconds", x.secondsToStable(), PoeSwitch.NONE);
        CHECK.due("31 301 seconds", x.stablePorts(), PoeSwitch.NONE);
        x.advance(1);
        CHECK.due("30 300 seconds", x.secondsToStable(), 300);
        CHECK.due("31 300 seconds", x.stablePorts(), 254);
        x.advance(1);
        CHECK.due("30 299 seconds", x.secondsToStable(), 299);
        CHECK.due("31 299 seconds", x.stablePorts(), 254);
    }

    private static void neverStable() {
        PoeSwitch x = new PoeSwitch();
        x.connect(0, 200, 0, 9, 41);
        CHECK.due("30 up and cut for ever", x.secondsToStable(), PoeSwitch.NONE);
        CHECK.due("31 up and cut for ever", x.stablePorts(), PoeSwitch.NONE);
        x.setEnabled(0, false);
        CHECK.due("30 disabled", x.secondsToStable(), 0);
        CHECK.due("31 disabled", x.stablePorts(), 0);
    }

    private static void planningChangesNothing() {
        PoeSwitch x = new PoeSwitch();
        x.connect(0, 200, 0, 9, 41);
        x.connect(1, 200, 0, 0, 0);
        x.advance(3);
        for (int i = 0; i < 3; i++) {
            x.secondsToStable();
            x.stablePorts();
            x.fittingPorts();
            x.shedIfFails(0);
            CHECK.due("23 clock", x.clock(), 3);
            CHECK.due("24 events", x.eventCount(), 2);
            CHECK.due("18 powered", x.poweredPorts(), 3);
            CHECK.due("20 counter", x.overload(0), 2);
            CHECK.due("9 available", x.available(), 1500 - 194);
        }
        CHECK.due("22 goes on as before", x.advance(1), 1);
        CHECK.due("27 cut", x.eventKind(2), PoeSwitch.CUT);
    }
}
