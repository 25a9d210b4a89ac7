/** Promises 28 to 31: planning. */
final class PlanningSentences {
    private PlanningSentences() {
    }

    static void enter(Book book) {
        book.section("Promise 28");
        book.test("---- planning; none of these methods changes anything", PlanningSentences::changesNothing);
        book.test("Returns the ports that would be shed in the next second",
                PlanningSentences::shedInTheNextSecond);
        book.test("if a supply failed now and nothing else changed", PlanningSentences::nothingElseChanged);
        book.plain("supply: supply number");
        book.test("it may have failed already", PlanningSentences::failedAlready);
        book.test("Returns the set of ports", PlanningSentences::shedSet);
        book.test("NO_SUCH_INDEX if the supply does not exist", PlanningSentences::shedNoSupply);

        book.section("Promise 29");
        book.test("Returns the ports that fit into the budget when all eligible ports are considered once",
                PlanningSentences::eligibleConsideredOnce);
        book.test("in priority order", PlanningSentences::fitInPriorityOrder);
        book.test("starting with no grants", PlanningSentences::startsWithNoGrants);
        book.test("A port fits if its requested power is at most what is left of the budget",
                PlanningSentences::atMostWhatIsLeft);
        book.test("then that much is taken from it", PlanningSentences::isTaken);
        book.test("A port that does not fit is skipped.", PlanningSentences::isSkipped);

        book.section("Promise 30");
        book.plain("Finds out when the switch becomes stable.");
        book.test("The switch is stable if one more simulated second would change nothing except the clock.",
                PlanningSentences::stableMeans);
        book.test("Returns the smallest number of seconds", PlanningSentences::smallestNumber);
        book.test("0 to 300, after which the switch is stable", PlanningSentences::zeroTo300);
        book.test("NONE if there is no such number", PlanningSentences::neverStable);

        book.section("Promise 31");
        book.test("Returns the ports that are powered when the switch has become stable.",
                PlanningSentences::poweredWhenStable);
        book.test("Returns the set of ports", PlanningSentences::stableSet);
        book.test("NONE if secondsToStable() is NONE", PlanningSentences::noStablePorts);
    }

    // ---- promise 28

    private static void changesNothing(Check check) {
        for (int supply = 0; supply < 3; supply++) {
            int asked = supply;
            // 360 is the budget of the busy switch, and 320 of it are granted.
            Lab.changesNothing(check, "shedIfFails(" + supply + ")", x -> x.shedIfFails(asked),
                    supply == 0 ? 5 : supply == 1 ? 1 : 0);
        }
        Lab.changesNothing(check, "fittingPorts()", x -> x.fittingPorts(), 7);
        Lab.changesNothing(check, "secondsToStable()", x -> x.secondsToStable(), PoeSwitch.NONE);
        Lab.changesNothing(check, "stablePorts()", x -> x.stablePorts(), PoeSwitch.NONE);
        PoeSwitch x = Lab.withSmallDevices(8);
        check.due("a stable end", x.secondsToStable(), 17);
        check.due("its ports", x.stablePorts(), 255);
        check.due("clock", x.clock(), 0);
        check.due("powered", x.poweredPorts(), 0);
        check.due("events", x.eventCount(), 0);
    }

    private static void shedInTheNextSecond(Check check) {
        int[] capacities = {120, 119, 80, 79, 40, 39, 0};
        int[] due = {0, 4, 4, 6, 6, 7, 7};
        for (int i = 0; i < capacities.length; i++) {
            PoeSwitch x = Lab.withSmallDevicesPowered(3);
            x.setCapacity(1, capacities[i]);
            check.due("left " + capacities[i], x.shedIfFails(0), due[i]);
            x.setWorking(0, false);
            check.due("as foretold", x.advance(1), Integer.bitCount(due[i]));
            check.due("ports as foretold", x.poweredPorts(), 7 - due[i]);
        }
        PoeSwitch y = new PoeSwitch();
        y.setCapacity(1, 40);
        Lab.plug(y, 0, Lab.CLASS_4, 0);
        y.setPriority(0, 0);
        Lab.plug(y, 1, Lab.CLASS_1, 0);
        y.advance(20);
        check.due("a port that is powered again is shed too", y.shedIfFails(0), 3);
        y.setWorking(0, false);
        y.advance(1);
        check.due("it is powered again", y.poweredPorts(), 2);
        PoeSwitch z = Lab.withSmallDevicesPowered(2);
        z.setLoad(0, 41);
        z.setOverloadLimit(1);
        check.due("a port that is to be cut is no such port", z.shedIfFails(1), 0);
    }

    private static void nothingElseChanged(Check check) {
        PoeSwitch x = Lab.withSmallDevicesPowered(3);
        x.setCapacity(0, 50);
        x.setCapacity(1, 60);
        x.setCapacity(2, 70);
        check.due("only supply 0 fails", x.shedIfFails(0), 0);
        check.due("only supply 1 fails", x.shedIfFails(1), 0);
        check.due("only supply 2 fails", x.shedIfFails(2), 4);
        x.setReserve(60);
        check.due("the reserve stays, 70 are left", x.shedIfFails(0), 6);
        check.due("the reserve stays, 60 are left", x.shedIfFails(1), 6);
        check.due("the reserve stays, 50 are left", x.shedIfFails(2), 6);
        x.setReserve(0);
        x.setPriority(2, 0);
        check.due("the priorities stay", x.shedIfFails(2), 2);
        check.due("asked twice", x.shedIfFails(2), 2);
    }

    private static void failedAlready(Check check) {
        PoeSwitch x = Lab.withSmallDevicesPowered(3);
        x.setCapacity(1, 1500);
        x.setWorking(1, false);
        check.due("no power is missing", x.shedIfFails(1), 0);
        x.setCapacity(0, 119);
        check.due("what is due anyway", x.shedIfFails(1), 4);
        x.setWorking(0, false);
        check.due("what is due anyway", x.shedIfFails(0), 7);
        check.due("it has failed still", x.setWorking(0, true), 0);
    }

    private static void shedSet(Check check) {
        PoeSwitch x = Lab.withSmallDevicesPowered(8);
        check.due("all", x.shedIfFails(0), 255);
        check.due("none", x.shedIfFails(1), 0);
        check.due("none", x.shedIfFails(2), 0);
        x.setCapacity(2, 280);
        check.due("the last one", x.shedIfFails(0), 128);
        check.due("no port is powered", new PoeSwitch().shedIfFails(0), 0);
    }

    private static void shedNoSupply(Check check) {
        PoeSwitch x = Lab.withSmallDevicesPowered(1);
        for (int supply : Lab.outside(0, 2)) {
            check.due("supply " + supply, x.shedIfFails(supply), PoeSwitch.NO_SUCH_INDEX);
        }
    }

    // ---- promise 29

    private static void eligibleConsideredOnce(Check check) {
        check.due("no port", new PoeSwitch().fittingPorts(), 0);
        check.due("all ports", Lab.withSmallDevices(8).fittingPorts(), 255);
        PoeSwitch x = Lab.busy();
        check.due("also a port in cooldown, only eligible ones", x.fittingPorts(), 7);
        PoeSwitch y = new PoeSwitch();
        y.setCapacity(0, 109);
        Lab.plug(y, 0, Lab.CLASS_2, 0);
        Lab.plug(y, 1, Lab.CLASS_1, 0);
        Lab.plug(y, 2, Lab.CLASS_1, 0);
        y.setRequest(2, 39);
        check.due("1 is not replaced by what comes later", y.fittingPorts(), 5);
    }

    private static void fitInPriorityOrder(Check check) {
        PoeSwitch x = Lab.withSmallDevices(8);
        x.setCapacity(0, 120);
        check.due("by port number", x.fittingPorts(), 7);
        x.setPriority(7, 1);
        check.due("7 first", x.fittingPorts(), 128 + 3);
        x.setPriority(6, 0);
        check.due("6, 7, then 0", x.fittingPorts(), 64 + 128 + 1);
        x.setPriority(5, 1);
        check.due("6, 5, 7", x.fittingPorts(), 64 + 32 + 128);
    }

    private static void startsWithNoGrants(Check check) {
        PoeSwitch x = Lab.withSmallDevicesPowered(3);
        x.setCapacity(0, 120);
        check.due("nothing is available", x.available(), 0);
        check.due("all fit", x.fittingPorts(), 7);
        Lab.plug(x, 3, Lab.CLASS_1, 0);
        x.setPriority(3, 0);
        check.due("3 in place of 2", x.fittingPorts(), 8 + 3);
        x.setCapacity(0, 40);
        check.due("with negative available power", x.fittingPorts(), 8);
    }

    private static void atMostWhatIsLeft(Check check) {
        PoeSwitch x = Lab.withSmallDevices(2);
        int[] capacities = {0, 39, 40, 41, 79, 80, 81};
        int[] due = {0, 0, 1, 1, 1, 3, 3};
        for (int i = 0; i < capacities.length; i++) {
            x.setCapacity(0, capacities[i]);
            check.due("budget " + capacities[i], x.fittingPorts(), due[i]);
        }
        x.setReserve(2);
        check.due("the budget is without the reserve", x.fittingPorts(), 1);
        x.setRequest(1, 39);
        check.due("the request counts", x.fittingPorts(), 3);
    }

    private static void isTaken(Check check) {
        PoeSwitch x = Lab.withSmallDevices(8);
        for (int count = 0; count <= 8; count++) {
            x.setCapacity(0, 40 * count);
            check.due("exactly " + count, x.fittingPorts(), (1 << count) - 1);
            x.setCapacity(0, 40 * count + 39);
            check.due("and 39 more", x.fittingPorts(), (1 << count) - 1);
        }
        x.setCapacity(0, 80);
        x.setRequest(0, 1);
        check.due("the request is taken, not the maximum", x.fittingPorts(), 3);
        x.setRequest(1, 39);
        check.due("1 and 39 and 40", x.fittingPorts(), 7);
    }

    private static void isSkipped(Check check) {
        PoeSwitch x = new PoeSwitch();
        Lab.plug(x, 0, Lab.CLASS_4, 0);
        x.setPriority(0, 0);
        Lab.plug(x, 1, Lab.CLASS_0, 0);
        Lab.plug(x, 2, Lab.CLASS_2, 0);
        Lab.plug(x, 3, Lab.CLASS_1, 0);
        x.setCapacity(0, 299);
        check.due("the first is skipped", x.fittingPorts(), 14);
        x.setCapacity(0, 194);
        check.due("one in the middle too", x.fittingPorts(), 10);
        x.setCapacity(0, 40);
        check.due("all but the last", x.fittingPorts(), 8);
        x.setCapacity(0, 39);
        check.due("all", x.fittingPorts(), 0);
    }

    // ---- promise 30

    private static void stableMeans(Check check) {
        PoeSwitch shed = Lab.withSmallDevicesPowered(1);
        check.due("nothing to do", shed.secondsToStable(), 0);
        shed.setCapacity(0, 40);
        check.due("nothing available, nothing to do", shed.secondsToStable(), 0);
        shed.setCapacity(0, 39);
        check.due("a port is to be shed", shed.secondsToStable(), 1);
        PoeSwitch counter = Lab.withSmallDevicesPowered(1);
        counter.setLoad(0, 41);
        counter.advance(1);
        counter.setLoad(0, 40);
        check.due("a counter is to become 0", counter.secondsToStable(), 1);
        PoeSwitch cooldown = Lab.withSmallDevicesPowered(1);
        cooldown.setOverloadLimit(1);
        cooldown.setCooldownTime(60);
        cooldown.setLoad(0, 41);
        cooldown.advance(1);
        cooldown.setCapacity(0, 0);
        check.due("a cooldown runs", cooldown.secondsToStable(), 60);
        PoeSwitch timer = Lab.withSmallDevices(1);
        timer.setRestartGap(30);
        timer.advance(1);
        check.due("the timer runs", timer.secondsToStable(), 30);
        PoeSwitch up = Lab.withSmallDevices(1);
        up.setRestartGap(1);
        check.due("a port is to be powered, then the timer runs", up.secondsToStable(), 2);
        up.setCapacity(0, 39);
        check.due("a port waits for ever", up.secondsToStable(), 0);
        PoeSwitch heavy = Lab.withSmallDevicesPowered(1);
        heavy.setLoad(0, 41);
        check.due("an overload is to be counted", heavy.secondsToStable(), PoeSwitch.NONE);
        heavy.setEnabled(0, false);
        check.due("the clock alone does not matter", heavy.secondsToStable(), 0);
    }

    private static void smallestNumber(Check check) {
        PoeSwitch x = Lab.withSmallDevices(8);
        x.setRestartGap(3);
        for (int left = 25; left >= 0; left--) {
            check.due("seconds", x.secondsToStable(), left);
            check.due("asked again", x.secondsToStable(), left);
            x.advance(1);
        }
        check.due("it stays stable", x.secondsToStable(), 0);
        check.due("and nothing happens", x.advance(60), 0);
    }

    /**
     * Port 0 comes first and is cut again and again, while the others get the power one by one; when
     * the last of them has it, none is left for port 0. Stable after 361 seconds.
     */
    private static PoeSwitch stableAfter361() {
        PoeSwitch x = Lab.withSmallDevices(8);
        x.setCapacity(0, 280);
        x.setRestartGap(30);
        x.setOverloadLimit(30);
        x.setCooldownTime(60);
        x.setPriority(0, 0);
        x.setLoad(0, 41);
        return x;
    }

    private static void zeroTo300(Check check) {
        check.due("0", new PoeSwitch().secondsToStable(), 0);
        PoeSwitch x = stableAfter361();
        check.due("361", x.secondsToStable(), PoeSwitch.NONE);
        x.advance(60);
        check.due("301", x.secondsToStable(), PoeSwitch.NONE);
        x.advance(1);
        check.due("300", x.secondsToStable(), 300);
        x.advance(1);
        check.due("299", x.secondsToStable(), 299);
        for (int i = 0; i < 4; i++) {
            x.advance(60);
        }
        x.advance(58);
        check.due("1", x.secondsToStable(), 1);
        x.advance(1);
        check.due("0 at last", x.secondsToStable(), 0);
    }

    private static void neverStable(Check check) {
        check.due("an event in each second", Lab.withAnEventEachSecond().secondsToStable(), PoeSwitch.NONE);
        PoeSwitch x = Lab.withSmallDevices(1);
        x.setOverloadLimit(30);
        x.setCooldownTime(60);
        x.setLoad(0, 41);
        check.due("an event now and then", x.secondsToStable(), PoeSwitch.NONE);
        x.setLoad(0, 40);
        check.due("none any more", x.secondsToStable(), 3);
    }

    // ---- promise 31

    private static void poweredWhenStable(Check check) {
        PoeSwitch x = stableAfter361();
        x.advance(60);
        x.advance(1);
        check.due("300 seconds from now", x.stablePorts(), 254);
        check.due("not those of now", x.poweredPorts(), 2 + 4);
        PoeSwitch y = Lab.withSmallDevicesPowered(3);
        y.setCapacity(0, 119);
        check.due("without the one that is shed", y.stablePorts(), 3);
        y.setCapacity(0, 0);
        check.due("all are shed", y.stablePorts(), 0);
        PoeSwitch z = Lab.withSmallDevicesPowered(3);
        check.due("stable now", z.stablePorts(), 7);
    }

    private static void stableSet(Check check) {
        check.due("no port", new PoeSwitch().stablePorts(), 0);
        PoeSwitch x = Lab.withSmallDevices(8);
        check.due("all ports", x.stablePorts(), 255);
        x.setCapacity(0, 319);
        check.due("all but the last", x.stablePorts(), 127);
        x.setEnabled(0, false);
        check.due("all but the first", x.stablePorts(), 254);
    }

    private static void noStablePorts(Check check) {
        PoeSwitch x = stableAfter361();
        x.advance(60);
        check.due("301 seconds", x.stablePorts(), PoeSwitch.NONE);
        x.advance(1);
        check.due("300 seconds", x.stablePorts(), 254);
        check.due("never", Lab.withAnEventEachSecond().stablePorts(), PoeSwitch.NONE);
        PoeSwitch y = Lab.withSmallDevices(2);
        y.setLoad(0, 41);
        check.due("never, though port 1 is calm", y.stablePorts(), PoeSwitch.NONE);
    }
}
