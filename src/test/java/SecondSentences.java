/** "One simulated second", the event log and the constants. */
final class SecondSentences {
    private SecondSentences() {
    }

    static void enter(Book book) {
        book.section("One simulated second");
        book.test("These steps run in this order:", SecondSentences::stepsInOrder);
        book.plain("Shedding.");
        book.test("While the available power is negative", SecondSentences::shedsWhileNegative);
        book.test("the powered port that is last in priority order loses power",
                SecondSentences::shedsTheLast);
        book.test("Each such port causes an event of kind SHED.", SecondSentences::shedEvents);
        book.plain("Overload check");
        book.test("for each powered port in ascending port number", SecondSentences::checksInPortOrder);
        book.test("If the load of its device is greater than its grant, its overload counter increases by 1",
                SecondSentences::countsWhatIsGreater);
        book.test("otherwise the counter becomes 0", SecondSentences::counterBecomesZero);
        book.test("If the counter is then at least the overload limit, the port loses power",
                SecondSentences::cutAtTheLimit);
        book.test("its cooldown is set to the cooldown time", SecondSentences::cutSetsCooldown);
        book.test("and an event of kind CUT occurs", SecondSentences::cutEvents);
        book.plain("Cooldown.");
        book.test("The cooldown of every port that was not cut in this second decreases by 1",
                SecondSentences::cooldownDecreases);
        book.test("if it is above 0", SecondSentences::cooldownStaysAtZero);
        book.plain("Power-up.");
        book.test("If the restart timer is above 0, it decreases by 1.", SecondSentences::timerDecreases);
        book.test("If the timer is now 0", SecondSentences::powerUpAtZero);
        book.test("the switch looks for the first port in priority order",
                SecondSentences::firstInPriorityOrder);
        book.test("that is eligible", SecondSentences::powersEligible);
        book.test("is not powered", SecondSentences::powersUnpowered);
        book.test("has cooldown 0", SecondSentences::powersCooledDown);
        book.test("and has a requested power that is at most the available power",
                SecondSentences::powersWhatFits);
        book.test("If there is such a port", SecondSentences::nonePowered);
        book.test("it is powered with its requested power as grant", SecondSentences::grantIsRequest);
        book.test("the restart timer is set to the restart gap", SecondSentences::timerIsSet);
        book.test("and an event of kind POWERED occurs", SecondSentences::poweredEvents);
        book.test("A port that was shed in this second can be powered up again in this step if these"
                + " conditions hold.", SecondSentences::shedAndPowered);
        book.test("The clock increases by 1.", SecondSentences::clockIncreases);
        book.test("The event log keeps the latest 16 events", SecondSentences::latest16);
        book.test("oldest first", SecondSentences::oldestFirst);
        book.test("Each event has the value of the clock before the second in which it occurred",
                SecondSentences::clockBefore);
        book.test("a port and a kind", SecondSentences::portAndKind);
        enterConstants(book);
    }

    private static void enterConstants(Book book) {
        book.plain("The constants:");
        book.test("NO_SUCH_INDEX = -1: The port, supply, event or snapshot index does not exist.",
                SecondSentences::noSuchIndex);
        book.test("BAD_VALUE = -2: A parameter value is out of range.", SecondSentences::badValue);
        book.test("BAD_STATE = -3: The operation is not possible in the current state.",
                SecondSentences::badState);
        book.test("NO_BUDGET = -5: The available power is too small.", SecondSentences::noBudget);
        book.test("NONE = -6: There is no such result.", SecondSentences::none);
        book.test("POWERED = 0: Event kind: a port was powered up.", SecondSentences::poweredIs0);
        book.test("SHED = 1: Event kind: a port was shed because the available power was negative.",
                SecondSentences::shedIs1);
        book.test("CUT = 2: Event kind: a port was cut off because of an overload.",
                SecondSentences::cutIs2);
        book.plain("The constructor and the methods follow, a promise each: the signature, then what it"
                + " does.");
    }

    // ---- the order of the steps

    private static void stepsInOrder(Check check) {
        sheddingBeforeOverload(check);
        overloadBeforePowerUp(check);
        cooldownBeforePowerUp(check);
        sheddingBeforePowerUp(check);
        PoeSwitch x = Lab.withSmallDevices(1);
        x.advance(1);
        check.due("power-up before the clock", x.eventTime(0), 0);
    }

    private static void sheddingBeforeOverload(Check check) {
        PoeSwitch x = Lab.withSmallDevicesPowered(2);
        x.setLoad(1, 41);
        x.advance(2);
        x.setCapacity(0, 79);
        check.due("in its last second", x.overload(1), 2);
        check.due("one event", x.advance(1), 1);
        Lab.event(check, x, 2, 22, 1, PoeSwitch.SHED);
        check.due("shed, not cut", x.cooldown(1), 0);
        PoeSwitch y = Lab.withSmallDevicesPowered(2);
        y.setOverloadLimit(1);
        y.setLoad(0, 41);
        y.setCapacity(0, 79);
        check.due("a cut comes too late to save a port from being shed", y.advance(1), 3);
        Lab.event(check, y, 2, 20, 1, PoeSwitch.SHED);
        Lab.event(check, y, 3, 20, 0, PoeSwitch.CUT);
        Lab.event(check, y, 4, 20, 1, PoeSwitch.POWERED);
    }

    private static void overloadBeforePowerUp(Check check) {
        PoeSwitch x = Lab.withSmallDevices(2);
        x.setCapacity(0, 40);
        x.setOverloadLimit(1);
        x.advance(3);
        x.setLoad(0, 41);
        check.due("the cut port makes room", x.advance(1), 2);
        Lab.event(check, x, 1, 3, 0, PoeSwitch.CUT);
        Lab.event(check, x, 2, 3, 1, PoeSwitch.POWERED);
        PoeSwitch y = Lab.withSmallDevices(1);
        y.setOverloadLimit(1);
        y.setLoad(0, 41);
        y.advance(1);
        check.due("no check in the second of the power-up", y.poweredPorts(), 1);
    }

    private static void cooldownBeforePowerUp(Check check) {
        PoeSwitch x = Lab.withSmallDevicesPowered(1);
        x.setOverloadLimit(1);
        x.setCooldownTime(1);
        x.setLoad(0, 41);
        check.due("cut, and in cooldown at once", x.advance(1), 1);
        check.due("not powered", x.poweredPorts(), 0);
        check.due("1 becomes 0, then it is powered", x.advance(1), 1);
        check.due("powered", x.poweredPorts(), 1);
    }

    private static void sheddingBeforePowerUp(Check check) {
        PoeSwitch x = largeAndSmall();
        x.advance(20);
        x.setCapacity(0, 40);
        x.advance(1);
        check.due("what was shed makes room", x.poweredPorts(), 2);
    }

    // ---- shedding

    private static void shedsWhileNegative(Check check) {
        int[] capacities = {120, 119, 80, 79, 40, 39, 1, 0};
        int[] sheds = {0, 1, 1, 2, 2, 3, 3, 3};
        for (int i = 0; i < capacities.length; i++) {
            PoeSwitch x = Lab.withSmallDevicesPowered(3);
            x.setCapacity(0, capacities[i]);
            check.due("sheds with " + capacities[i], x.advance(1), sheds[i]);
            check.due("rest with " + capacities[i], x.poweredPorts(), (1 << (3 - sheds[i])) - 1);
        }
        PoeSwitch all = Lab.withSmallDevicesPowered(8);
        all.setWorking(0, false);
        check.due("all eight", all.advance(1), 8);
        check.due("none is left", all.poweredPorts(), 0);
    }

    private static void shedsTheLast(Check check) {
        PoeSwitch x = Lab.withSmallDevicesPowered(8);
        int[] priorities = {1, 0, 2, 1, 0, 2, 1, 0};
        for (int port = 0; port < 8; port++) {
            x.setPriority(port, priorities[port]);
        }
        int[] order = {5, 2, 6, 3, 0, 7, 4, 1};
        int left = 255;
        for (int i = 0; i < 8; i++) {
            x.setCapacity(0, 40 * (7 - i));
            x.advance(1);
            left &= ~(1 << order[i]);
            check.due("after " + (i + 1), x.poweredPorts(), left);
        }
        PoeSwitch y = Lab.withSmallDevicesPowered(2);
        y.setEnabled(1, false);
        y.setCapacity(0, 39);
        check.due("a port that is not powered is passed over", y.advance(1), 1);
        check.due("the powered one is shed", y.eventPort(2), 0);
    }

    private static void shedEvents(Check check) {
        PoeSwitch x = Lab.withSmallDevicesPowered(3);
        x.setPriority(2, 0);
        x.setCapacity(0, 0);
        check.due("three events", x.advance(1), 3);
        check.due("in the log", x.eventCount(), 6);
        Lab.event(check, x, 3, 20, 1, PoeSwitch.SHED);
        Lab.event(check, x, 4, 20, 0, PoeSwitch.SHED);
        Lab.event(check, x, 5, 20, 2, PoeSwitch.SHED);
        check.due("no more afterwards", x.advance(1), 0);
    }

    // ---- overload

    private static void checksInPortOrder(Check check) {
        PoeSwitch x = Lab.withSmallDevicesPowered(8);
        x.setOverloadLimit(1);
        for (int port = 0; port < 8; port++) {
            x.setLoad(port, 41);
            x.setPriority(port, (7 - port) / 3);
        }
        check.due("all are cut", x.advance(1), 8);
        for (int port = 0; port < 8; port++) {
            Lab.event(check, x, 8 + port, 20, port, PoeSwitch.CUT);
        }
        PoeSwitch y = Lab.withSmallDevices(2);
        y.setCapacity(0, 40);
        y.setLoad(1, 999);
        y.setOverloadLimit(1);
        check.due("a port that is not powered is not checked", y.advance(10), 1);
        check.due("its counter", y.overload(1), 0);
    }

    private static void countsWhatIsGreater(Check check) {
        int[] loads = {0, 39, 40, 41, 999};
        for (int load : loads) {
            PoeSwitch x = Lab.withSmallDevicesPowered(1);
            x.setLoad(0, load);
            x.advance(1);
            check.due("load " + load, x.overload(0), load > 40 ? 1 : 0);
            x.advance(1);
            check.due("load " + load + " again", x.overload(0), load > 40 ? 2 : 0);
        }
        PoeSwitch y = Lab.withSmallDevicesPowered(1);
        y.setLoad(0, 30);
        y.setRequest(0, 29);
        y.advance(1);
        check.due("by the grant, not by the class", y.overload(0), 1);
    }

    private static void counterBecomesZero(Check check) {
        PoeSwitch x = Lab.withSmallDevicesPowered(1);
        x.setOverloadLimit(30);
        x.setLoad(0, 41);
        x.advance(29);
        check.due("29 seconds", x.overload(0), 29);
        x.setLoad(0, 40);
        check.due("not before the next second", x.overload(0), 29);
        x.advance(1);
        check.due("0 at once, not 28", x.overload(0), 0);
        x.setLoad(0, 41);
        x.advance(1);
        check.due("counts anew", x.overload(0), 1);
        check.due("so 28 seconds more are calm", x.advance(28), 0);
        check.due("and the 30th is not", x.advance(1), 1);
    }

    private static void cutAtTheLimit(Check check) {
        int[] limits = {1, 2, 3, 29, 30};
        for (int limit : limits) {
            PoeSwitch x = Lab.withSmallDevicesPowered(1);
            x.setOverloadLimit(limit);
            x.setLoad(0, 41);
            for (int second = 1; second < limit; second++) {
                check.due("before limit " + limit, x.advance(1), 0);
            }
            check.due("powered before limit " + limit, x.poweredPorts(), 1);
            check.due("cut at limit " + limit, x.advance(1), 1);
            check.due("not powered at limit " + limit, x.poweredPorts(), 0);
        }
        PoeSwitch y = Lab.withSmallDevicesPowered(1);
        y.setOverloadLimit(30);
        y.setLoad(0, 41);
        y.advance(20);
        y.setOverloadLimit(5);
        check.due("powered although above a new limit", y.poweredPorts(), 1);
        check.due("cut in the next second", y.advance(1), 1);
        PoeSwitch z = Lab.withSmallDevicesPowered(1);
        z.setLoad(0, 41);
        z.advance(2);
        z.setOverloadLimit(1);
        z.setLoad(0, 40);
        check.due("the counter is 0 by then", z.advance(1), 0);
    }

    private static void cutSetsCooldown(Check check) {
        int[] times = {1, 2, 59, 60};
        for (int time : times) {
            PoeSwitch x = Lab.withSmallDevicesPowered(2);
            x.setOverloadLimit(1);
            x.setCooldownTime(time);
            x.setLoad(1, 41);
            x.advance(1);
            check.due("cooldown time " + time, x.cooldown(1), time);
            check.due("of the other port", x.cooldown(0), 0);
        }
        PoeSwitch y = Lab.withSmallDevicesPowered(1);
        y.setCapacity(0, 0);
        y.advance(1);
        check.due("a shed port has none", y.cooldown(0), 0);
    }

    private static void cutEvents(Check check) {
        PoeSwitch x = Lab.withSmallDevicesPowered(1);
        x.setLoad(0, 41);
        check.due("one event in the third second", x.advance(3), 1);
        Lab.event(check, x, 1, 22, 0, PoeSwitch.CUT);
        check.due("none while it cools down", x.advance(4), 0);
    }

    // ---- cooldown

    private static void cooldownDecreases(Check check) {
        PoeSwitch x = Lab.withSmallDevicesPowered(2);
        x.setOverloadLimit(1);
        x.setLoad(0, 41);
        x.advance(1);
        check.due("not in the second of the cut", x.cooldown(0), 5);
        x.setLoad(1, 41);
        x.advance(1);
        check.due("by 1 in the next", x.cooldown(0), 4);
        check.due("the one that was cut now keeps it", x.cooldown(1), 5);
        x.advance(3);
        check.due("by 1 in each", x.cooldown(0), 1);
        check.due("every port", x.cooldown(1), 2);
        x.setCapacity(0, 0);
        x.advance(1);
        check.due("also to 0", x.cooldown(0), 0);
    }

    private static void cooldownStaysAtZero(Check check) {
        PoeSwitch x = Lab.withSmallDevices(1);
        x.advance(60);
        for (int port = 0; port < 8; port++) {
            check.due("port " + port, x.cooldown(port), 0);
        }
        PoeSwitch y = Lab.withSmallDevicesPowered(1);
        y.setOverloadLimit(1);
        y.setLoad(0, 41);
        y.advance(1);
        y.setCapacity(0, 0);
        y.advance(60);
        check.due("long after a cut", y.cooldown(0), 0);
        y.setCapacity(0, 40);
        check.due("so it can be powered", y.advance(1), 1);
    }

    // ---- power-up

    private static void timerDecreases(Check check) {
        PoeSwitch x = Lab.withSmallDevices(1);
        x.setRestartGap(30);
        x.advance(1);
        for (int left = 30; left > 0; left--) {
            // Nothing but the timer moves here, so the time to be stable shows it.
            check.due("timer", x.secondsToStable(), left);
            x.advance(1);
        }
        check.due("at 0", x.secondsToStable(), 0);
        x.advance(1);
        check.due("it stays there", x.secondsToStable(), 0);
        Lab.plug(x, 1, Lab.CLASS_1, 0);
        check.due("so the next power-up comes at once", x.advance(1), 1);
    }

    private static void powerUpAtZero(Check check) {
        int[] gaps = {1, 2, 29, 30};
        for (int gap : gaps) {
            PoeSwitch x = Lab.withSmallDevices(2);
            x.setRestartGap(gap);
            x.advance(1);
            for (int second = 1; second < gap; second++) {
                check.due("timer above 0, gap " + gap, x.advance(1), 0);
            }
            check.due("timer now 0, gap " + gap, x.advance(1), 1);
            check.due("time with gap " + gap, x.eventTime(1), gap);
        }
    }

    private static void firstInPriorityOrder(Check check) {
        PoeSwitch x = Lab.withSmallDevices(8);
        x.setRestartGap(1);
        int[] priorities = {2, 1, 0, 2, 1, 0, 2, 1};
        for (int port = 0; port < 8; port++) {
            x.setPriority(port, priorities[port]);
        }
        int[] order = {2, 5, 1, 4, 7, 0, 3, 6};
        for (int i = 0; i < 8; i++) {
            check.due("one at a time", x.advance(1), 1);
            Lab.event(check, x, i, i, order[i], PoeSwitch.POWERED);
        }
    }

    private static void powersEligible(Check check) {
        PoeSwitch x = Lab.withSmallDevices(1);
        x.setEnabled(0, false);
        x.connect(1, 189, 0, Lab.CLASS_1, 0);
        x.connect(2, 200, 16, Lab.CLASS_1, 0);
        x.connect(3, 200, 0, Lab.NO_CLASS, 0);
        check.due("none is eligible", x.advance(60), 0);
        Lab.plug(x, 5, Lab.CLASS_1, 0);
        x.advance(1);
        check.due("behind them one is", x.poweredPorts(), 32);
    }

    private static void powersUnpowered(Check check) {
        PoeSwitch x = Lab.withSmallDevices(1);
        check.due("powered once", x.advance(60), 1);
        Lab.plug(x, 1, Lab.CLASS_1, 0);
        x.advance(1);
        check.due("the powered one is passed over", x.eventPort(1), 1);
    }

    private static void powersCooledDown(Check check) {
        PoeSwitch x = Lab.withSmallDevicesPowered(1);
        x.setOverloadLimit(1);
        x.setLoad(0, 41);
        x.advance(1);
        check.due("not while it cools down", x.advance(4), 0);
        check.due("one second is left", x.cooldown(0), 1);
        Lab.plug(x, 1, Lab.CLASS_1, 0);
        check.due("when it is 0", x.advance(1), 1);
        check.due("it comes first", x.eventPort(2), 0);
        PoeSwitch y = Lab.withSmallDevicesPowered(1);
        y.setOverloadLimit(1);
        y.setLoad(0, 41);
        y.advance(1);
        Lab.plug(y, 1, Lab.CLASS_1, 0);
        y.advance(1);
        check.due("a port behind it is powered meanwhile", y.poweredPorts(), 2);
    }

    private static void powersWhatFits(Check check) {
        PoeSwitch x = Lab.withSmallDevices(1);
        x.setCapacity(0, 39);
        check.due("one too little", x.advance(60), 0);
        x.setCapacity(0, 40);
        check.due("just enough", x.advance(1), 1);
        PoeSwitch y = Lab.withSmallDevicesPowered(1);
        Lab.plug(y, 1, Lab.CLASS_2, 0);
        Lab.plug(y, 2, Lab.CLASS_1, 0);
        y.setCapacity(0, 109);
        y.advance(1);
        check.due("the first that fits, with 69 available", y.poweredPorts(), 5);
        PoeSwitch z = Lab.withSmallDevicesPowered(1);
        Lab.plug(z, 1, Lab.CLASS_2, 0);
        Lab.plug(z, 2, Lab.CLASS_1, 0);
        z.setCapacity(0, 110);
        z.advance(1);
        check.due("the first that fits, with 70 available", z.poweredPorts(), 3);
    }

    private static void nonePowered(Check check) {
        PoeSwitch x = Lab.withSmallDevices(2);
        x.setRestartGap(30);
        x.setCapacity(0, 39);
        check.due("no such port", x.advance(10), 0);
        check.due("no power", x.poweredPorts(), 0);
        check.due("no event", x.eventCount(), 0);
        x.setCapacity(0, 80);
        check.due("the timer was not set, so there is no wait", x.advance(1), 1);
    }

    private static void grantIsRequest(Check check) {
        PoeSwitch x = new PoeSwitch();
        Lab.plug(x, 0, Lab.CLASS_4, 7);
        Lab.plug(x, 1, Lab.CLASS_4, 7);
        x.setRequest(0, 1);
        x.advance(3);
        check.due("a request of 1", x.grant(0), 1);
        check.due("a request of 300", x.grant(1), 300);
        check.due("what is left", x.available(), 1199);
    }

    private static void timerIsSet(Check check) {
        PoeSwitch x = Lab.withSmallDevices(3);
        x.setRestartGap(1);
        check.due("gap 1: a power-up in each second", x.advance(3), 3);
        PoeSwitch y = Lab.withSmallDevices(3);
        y.setRestartGap(30);
        check.due("gap 30: the first", y.advance(30), 1);
        check.due("gap 30: the second", y.advance(30), 1);
        check.due("gap 30: the third", y.advance(1), 1);
        Lab.event(check, y, 1, 30, 1, PoeSwitch.POWERED);
        Lab.event(check, y, 2, 60, 2, PoeSwitch.POWERED);
    }

    private static void poweredEvents(Check check) {
        PoeSwitch x = new PoeSwitch();
        Lab.plug(x, 7, Lab.CLASS_1, 0);
        check.due("one event", x.advance(1), 1);
        Lab.event(check, x, 0, 0, 7, PoeSwitch.POWERED);
        check.due("and no other", x.advance(60), 0);
    }

    /** Port 0 has 300 and priority 0, port 1 has 40, and both must be shed with less than 300. */
    private static PoeSwitch largeAndSmall() {
        PoeSwitch x = new PoeSwitch();
        Lab.plug(x, 0, Lab.CLASS_4, 0);
        x.setPriority(0, 0);
        Lab.plug(x, 1, Lab.CLASS_1, 0);
        return x;
    }

    private static void shedAndPowered(Check check) {
        PoeSwitch x = largeAndSmall();
        x.advance(20);
        x.setCapacity(0, 299);
        check.due("both are shed, the small one is powered", x.advance(1), 3);
        Lab.event(check, x, 2, 20, 1, PoeSwitch.SHED);
        Lab.event(check, x, 3, 20, 0, PoeSwitch.SHED);
        Lab.event(check, x, 4, 20, 1, PoeSwitch.POWERED);
        check.due("the small one", x.poweredPorts(), 2);
        PoeSwitch y = largeAndSmall();
        y.advance(3);
        y.setCapacity(0, 299);
        check.due("the timer is 2: both are shed, none is powered", y.advance(1), 2);
        check.due("none", y.poweredPorts(), 0);
        check.due("a second later", y.advance(1), 1);
        PoeSwitch z = largeAndSmall();
        z.advance(20);
        z.setCapacity(0, 39);
        check.due("neither fits: both are shed, none is powered", z.advance(1), 2);
    }

    private static void clockIncreases(Check check) {
        PoeSwitch x = Lab.withAnEventEachSecond();
        for (int second = 1; second <= 60; second++) {
            x.advance(1);
            check.due("after " + second, x.clock(), second);
        }
        x.advance(60);
        check.due("after 60 more", x.clock(), 120);
    }

    // ---- the event log

    private static void latest16(Check check) {
        PoeSwitch x = Lab.withAnEventEachSecond();
        check.due("empty", x.eventCount(), 0);
        for (int events = 1; events <= 49; events++) {
            x.advance(1);
            int kept = Math.min(events, 16);
            check.due("count after " + events, x.eventCount(), kept);
            check.due("latest of " + events, x.eventTime(kept - 1), events - 1);
            check.due("oldest of " + events, x.eventTime(0), events - kept);
            check.due("no more than these", x.eventTime(kept), PoeSwitch.NO_SUCH_INDEX);
        }
    }

    private static void oldestFirst(Check check) {
        int[] counts = {2, 15, 16, 17, 31, 32, 33};
        for (int events : counts) {
            PoeSwitch x = Lab.withAnEventEachSecond();
            x.advance(events);
            int kept = Math.min(events, 16);
            for (int index = 0; index < kept; index++) {
                int time = events - kept + index;
                Lab.event(check, x, index, time, 0, time % 2 == 0 ? PoeSwitch.POWERED : PoeSwitch.CUT);
            }
        }
    }

    private static void clockBefore(Check check) {
        PoeSwitch x = Lab.withSmallDevices(1);
        x.advance(1);
        check.due("in the first second", x.eventTime(0), 0);
        x.advance(9);
        x.setCapacity(0, 0);
        x.advance(1);
        check.due("in the 11th second", x.eventTime(1), 10);
        x.setCapacity(0, 40);
        x.setOverloadLimit(1);
        x.setLoad(0, 41);
        x.advance(10);
        check.due("in the 12th second, in a long advance", x.eventTime(2), 11);
        check.due("in the 13th", x.eventTime(3), 12);
    }

    private static void portAndKind(Check check) {
        for (int port = 0; port < 8; port += 7) {
            PoeSwitch x = new PoeSwitch();
            Lab.plug(x, port, Lab.CLASS_1, 41);
            x.setOverloadLimit(1);
            x.setCooldownTime(1);
            x.advance(3);
            x.setCapacity(0, 0);
            x.advance(1);
            Lab.event(check, x, 0, 0, port, PoeSwitch.POWERED);
            Lab.event(check, x, 1, 1, port, PoeSwitch.CUT);
            Lab.event(check, x, 2, 2, port, PoeSwitch.POWERED);
            Lab.event(check, x, 3, 3, port, PoeSwitch.SHED);
        }
    }

    // ---- constants; the values are written as numbers, as the document has them

    private static void noSuchIndex(Check check) {
        check.due("constant", PoeSwitch.NO_SUCH_INDEX, -1);
        PoeSwitch x = new PoeSwitch();
        check.due("port", x.grant(8), -1);
        check.due("supply", x.setWorking(3, true), -1);
        check.due("event", x.eventKind(0), -1);
        check.due("snapshot", x.save(2), -1);
    }

    private static void badValue(Check check) {
        check.due("constant", PoeSwitch.BAD_VALUE, -2);
        check.due("answer", new PoeSwitch().advance(61), -2);
    }

    private static void badState(Check check) {
        check.due("constant", PoeSwitch.BAD_STATE, -3);
        check.due("answer", new PoeSwitch().disconnect(0), -3);
    }

    private static void noBudget(Check check) {
        check.due("constant", PoeSwitch.NO_BUDGET, -5);
        PoeSwitch x = Lab.withSmallDevices(1);
        x.setRequest(0, 1);
        x.advance(1);
        x.setCapacity(0, 39);
        check.due("too small", x.setRequest(0, 40), -5);
        check.due("large enough", x.setRequest(0, 39), 1);
    }

    private static void none(Check check) {
        check.due("constant", PoeSwitch.NONE, -6);
        check.due("answer", new PoeSwitch().request(0), -6);
    }

    private static void poweredIs0(Check check) {
        check.due("constant", PoeSwitch.POWERED, 0);
        check.due("answer", Lab.withSmallDevicesPowered(1).eventKind(0), 0);
    }

    private static void shedIs1(Check check) {
        check.due("constant", PoeSwitch.SHED, 1);
        PoeSwitch x = Lab.withSmallDevicesPowered(1);
        x.setCapacity(0, 39);
        x.advance(1);
        check.due("answer", x.eventKind(1), 1);
    }

    private static void cutIs2(Check check) {
        check.due("constant", PoeSwitch.CUT, 2);
        PoeSwitch x = Lab.withAnEventEachSecond();
        x.advance(2);
        check.due("answer", x.eventKind(1), 2);
    }
}
