/** "What it is" and the description up to "Power state". */
final class DescriptionSentences {
    private DescriptionSentences() {
    }

    static void enter(Book book) {
        book.section("What it is");
        book.test("eight ports and three power supplies", DescriptionSentences::eightPortsThreeSupplies);
        book.plain("A simulator of a Power over Ethernet (PoE) switch with");
        book.test("An object is used for at most 512 calls after it has been made",
                DescriptionSentences::call512);
        book.plain("what later calls answer is free");

        book.section("Description");
        book.plain("The switch detects a connected device by its resistance and capacitance, classifies it"
                + " by its classification current, and powers ports one at a time in priority order while"
                + " the power budget allows it.");
        book.plain("It sheds low-priority ports when a supply fails, cuts off ports that draw more than"
                + " they were granted, and restarts them after a cooldown.");
        book.test("The clock advances in whole seconds, only by advance", DescriptionSentences::onlyAdvance);

        book.section("Conventions");
        book.plain("All power values are integers in tenths of a watt.");
        book.test("Ports are numbered 0 to 7", DescriptionSentences::portNumbers);
        book.test("supplies 0 to 2", DescriptionSentences::supplyNumbers);
        book.test("A set of ports is returned as a bit mask: bit p is set if port p is in the set.",
                DescriptionSentences::masks);
        book.plain("Methods report errors with the negative constants below.");
        book.test("When several errors apply, the method returns the one that its Javadoc lists first.",
                DescriptionSentences::firstError);
        book.test("A call that returns an error changes nothing.", DescriptionSentences::errorsChangeNothing);

        book.section("Budget");
        book.test("Each supply has a capacity (0 to 3000)", DescriptionSentences::capacityRange);
        book.test("and is either working or failed", DescriptionSentences::workingOrFailed);
        book.test("Initially supply 0 has capacity 1500, the others have capacity 0, and all are working.",
                DescriptionSentences::initialSupplies);
        book.test("The budget is the sum of the capacities of all working supplies",
                DescriptionSentences::budgetOfWorkingSupplies);
        book.test("minus the reserve, but at least 0", DescriptionSentences::budgetAtLeastZero);
        book.test("The available power is the budget minus the sum of all grants.",
                DescriptionSentences::availablePower);
        book.test("It can be negative until the next second is simulated.",
                DescriptionSentences::negativeUntilTheNextSecond);

        enterPortsAndDevices(book);
        enterPowerState(book);
    }

    private static void enterPortsAndDevices(Book book) {
        book.section("Ports and devices");
        book.test("Each port is enabled or disabled (initially enabled)",
                DescriptionSentences::initiallyEnabled);
        book.test("and has a priority: 0 is critical, 1 is high, 2 is low (initially 2)",
                DescriptionSentences::priorities);
        book.test("Port a comes before port b in priority order if a has the smaller priority number",
                DescriptionSentences::smallerPriorityFirst);
        book.test("or if the priorities are equal and a has the smaller port number",
                DescriptionSentences::smallerPortFirst);
        book.test("At most one device is connected to a port.", DescriptionSentences::oneDevice);
        book.plain("A device has");
        book.test("a resistance (1 to 999, in tenths of a kilohm)", DescriptionSentences::resistanceRange);
        book.test("a capacitance (0 to 99, in tenths of a microfarad)",
                DescriptionSentences::capacitanceRange);
        book.test("a classification current (0 to 60, in milliamperes)", DescriptionSentences::currentRange);
        book.test("and a load (0 to 999)", DescriptionSentences::loadRange);
        book.test("which is the power that it draws when powered", DescriptionSentences::drawsWhenPowered);
        book.test("A device is detected if its resistance is from 190 to 265",
                DescriptionSentences::detectedResistance);
        book.test("and its capacitance is at most 15", DescriptionSentences::detectedCapacitance);
        book.test("The class of a device depends only on its classification current:",
                DescriptionSentences::classByCurrentAlone);
        book.test("current 0 to 4 9 to 12 17 to 20 26 to 30 36 to 44 any other value"
                + " class 0 1 2 3 4 no class", DescriptionSentences::classEdges);
        book.test("maximum 154 40 70 154 300", DescriptionSentences::maximumEdges);
        book.test("A device with a class has a requested power.", DescriptionSentences::requestNeedsClass);
        book.test("Initially it is the maximum of its class.", DescriptionSentences::initialRequest);
        book.test("A port is eligible if it is enabled", DescriptionSentences::eligibleEnabled);
        book.test("has a connected device", DescriptionSentences::eligibleConnected);
        book.test("and that device is detected and has a class", DescriptionSentences::eligibleDevice);
    }

    private static void enterPowerState(Book book) {
        book.section("Power state");
        book.plain("A port is powered or not.");
        book.test("A powered port has a grant (above 0) and an overload counter.",
                DescriptionSentences::grantAboveZero);
        book.test("A port that is not powered has grant 0 and overload counter 0.",
                DescriptionSentences::unpoweredHasNothing);
        book.test("Each port also has a cooldown in seconds, initially 0.",
                DescriptionSentences::initialCooldown);
        book.test("The switch has a restart timer, initially 0.", DescriptionSentences::initialTimer);
        book.test("When a port is disabled", DescriptionSentences::disabledLosesPower);
        book.test("or its device is disconnected", DescriptionSentences::disconnectedLosesPower);
        book.test("the port loses power at once and its cooldown becomes 0",
                DescriptionSentences::cooldownBecomesZero);
        book.test("this is not an event", DescriptionSentences::noEventForIt);
    }

    // ---- what it is

    private static void eightPortsThreeSupplies(Check check) {
        PoeSwitch x = new PoeSwitch();
        int ports = 0;
        int supplies = 0;
        for (int index = -100; index <= 100; index++) {
            ports += x.grant(index) == 0 ? 1 : 0;
            supplies += x.shedIfFails(index) == 0 ? 1 : 0;
        }
        check.due("number of ports", ports, 8);
        check.due("number of supplies", supplies, 3);
    }

    private static void call512(Check check) {
        PoeSwitch x = Lab.withAnEventEachSecond();
        // Four calls have been made.
        for (int call = 5; call <= 510; call++) {
            check.due("advance(60), call " + call, x.advance(60), 60);
        }
        check.due("clock(), call 511", x.clock(), 506 * 60);
        check.due("eventTime(15), call 512", x.eventTime(15), 506 * 60 - 1);
    }

    private static void onlyAdvance(Check check) {
        PoeSwitch x = Lab.busy();
        Lab.Call[] calls = {
            y -> y.setCapacity(1, 101), y -> y.setWorking(2, true), y -> y.setReserve(0),
            y -> y.setRestartGap(1), y -> y.setOverloadLimit(1), y -> y.setCooldownTime(1),
            y -> y.budget(), y -> y.available(), y -> y.setEnabled(3, true), y -> y.setPriority(3, 0),
            y -> y.connect(7, 200, 0, 0, 0), y -> y.disconnect(4), y -> y.setLoad(0, 999),
            y -> y.setRequest(0, 1), y -> y.request(0), y -> y.eligiblePorts(), y -> y.poweredPorts(),
            y -> y.grant(0), y -> y.overload(0), y -> y.cooldown(0), y -> y.eventCount(),
            y -> y.eventTime(0), y -> y.eventPort(0), y -> y.eventKind(0), y -> y.shedIfFails(0),
            y -> y.fittingPorts(), y -> y.secondsToStable(), y -> y.stablePorts(), y -> y.save(1)};
        for (int i = 0; i < calls.length; i++) {
            calls[i].on(x);
            check.due("clock() after call " + i, x.clock(), 8);
        }
        x.advance(1);
        check.due("clock() after advance(1)", x.clock(), 9);
    }

    // ---- conventions

    private static Lab.Call[] callsOnPort(int port) {
        return new Lab.Call[] {
            x -> x.setEnabled(port, true), x -> x.setPriority(port, 1),
            x -> x.connect(port, 200, 0, 0, 0), x -> x.setLoad(port, 1), x -> x.setRequest(port, 1),
            x -> x.request(port), x -> x.grant(port), x -> x.overload(port), x -> x.cooldown(port),
            x -> x.disconnect(port)};
    }

    private static void portNumbers(Check check) {
        for (int port = 0; port <= 7; port++) {
            PoeSwitch x = new PoeSwitch();
            int[] due = {1, 2, 0, 0, 154, 1, 0, 0, 0, 0};
            Lab.Call[] calls = callsOnPort(port);
            for (int i = 0; i < calls.length; i++) {
                check.due("call " + i + " on port " + port, calls[i].on(x), due[i]);
            }
        }
        for (int port : Lab.outside(0, 7)) {
            PoeSwitch x = new PoeSwitch();
            Lab.Call[] calls = callsOnPort(port);
            for (int i = 0; i < calls.length; i++) {
                check.due("call " + i + " on port " + port, calls[i].on(x), PoeSwitch.NO_SUCH_INDEX);
            }
        }
    }

    private static void supplyNumbers(Check check) {
        PoeSwitch x = new PoeSwitch();
        for (int supply = 0; supply <= 2; supply++) {
            check.due("setCapacity " + supply, x.setCapacity(supply, 7), supply == 0 ? 1500 : 0);
            check.due("setWorking " + supply, x.setWorking(supply, true), 1);
            check.due("shedIfFails " + supply, x.shedIfFails(supply), 0);
        }
        for (int supply : Lab.outside(0, 2)) {
            check.due("setCapacity " + supply, x.setCapacity(supply, 7), PoeSwitch.NO_SUCH_INDEX);
            check.due("setWorking " + supply, x.setWorking(supply, true), PoeSwitch.NO_SUCH_INDEX);
            check.due("shedIfFails " + supply, x.shedIfFails(supply), PoeSwitch.NO_SUCH_INDEX);
        }
    }

    private static void allMasks(Check check, String which, PoeSwitch x, int due) {
        check.due(which + " eligiblePorts()", x.eligiblePorts(), due);
        check.due(which + " fittingPorts()", x.fittingPorts(), due);
        check.due(which + " stablePorts()", x.stablePorts(), due);
        x.advance(20);
        check.due(which + " poweredPorts()", x.poweredPorts(), due);
        check.due(which + " shedIfFails(0)", x.shedIfFails(0), due);
    }

    private static void masks(Check check) {
        allMasks(check, "no port", new PoeSwitch(), 0);
        allMasks(check, "all ports", Lab.withSmallDevices(8), 255);
        for (int port = 0; port < 8; port++) {
            PoeSwitch x = new PoeSwitch();
            Lab.plug(x, port, Lab.CLASS_1, 0);
            allMasks(check, "port " + port, x, 1 << port);
        }
    }

    private static void firstError(Check check) {
        PoeSwitch x = Lab.busy();
        check.due("setCapacity, both wrong", x.setCapacity(3, 3001), PoeSwitch.NO_SUCH_INDEX);
        check.due("setPriority, both wrong", x.setPriority(8, 3), PoeSwitch.NO_SUCH_INDEX);
        check.due("connect, no port, bad value", x.connect(8, 0, 0, 0, 0), PoeSwitch.NO_SUCH_INDEX);
        check.due("connect, bad value, taken", x.connect(0, 0, 0, 0, 0), PoeSwitch.BAD_VALUE);
        check.due("setLoad, no port, bad value", x.setLoad(-1, 1000), PoeSwitch.NO_SUCH_INDEX);
        check.due("setLoad, bad value, no device", x.setLoad(7, 1000), PoeSwitch.BAD_VALUE);
        check.due("setRequest, no port, bad value", x.setRequest(8, 0), PoeSwitch.NO_SUCH_INDEX);
        check.due("setRequest, no device, bad value", x.setRequest(7, 0), PoeSwitch.BAD_STATE);
        check.due("setRequest, no class, bad value", x.setRequest(5, 0), PoeSwitch.BAD_STATE);
        check.due("setRequest, bad value, no budget", x.setRequest(0, 301), PoeSwitch.BAD_VALUE);
        check.due("restore, no slot, nothing saved", x.restore(2), PoeSwitch.NO_SUCH_INDEX);
    }

    private static void errorsChangeNothing(Check check) {
        int index = PoeSwitch.NO_SUCH_INDEX;
        int value = PoeSwitch.BAD_VALUE;
        int state = PoeSwitch.BAD_STATE;
        Lab.changesNothing(check, "setCapacity(3, 5)", x -> x.setCapacity(3, 5), index);
        Lab.changesNothing(check, "setCapacity(0, -1)", x -> x.setCapacity(0, -1), value);
        Lab.changesNothing(check, "setCapacity(0, 3001)", x -> x.setCapacity(0, 3001), value);
        Lab.changesNothing(check, "setWorking(3, false)", x -> x.setWorking(3, false), index);
        Lab.changesNothing(check, "setWorking(-1, false)", x -> x.setWorking(-1, false), index);
        Lab.changesNothing(check, "setReserve(-1)", x -> x.setReserve(-1), value);
        Lab.changesNothing(check, "setReserve(3001)", x -> x.setReserve(3001), value);
        Lab.changesNothing(check, "setRestartGap(0)", x -> x.setRestartGap(0), value);
        Lab.changesNothing(check, "setRestartGap(31)", x -> x.setRestartGap(31), value);
        Lab.changesNothing(check, "setOverloadLimit(0)", x -> x.setOverloadLimit(0), value);
        Lab.changesNothing(check, "setOverloadLimit(31)", x -> x.setOverloadLimit(31), value);
        Lab.changesNothing(check, "setCooldownTime(0)", x -> x.setCooldownTime(0), value);
        Lab.changesNothing(check, "setCooldownTime(61)", x -> x.setCooldownTime(61), value);
        Lab.changesNothing(check, "setEnabled(8, false)", x -> x.setEnabled(8, false), index);
        Lab.changesNothing(check, "setEnabled(-1, true)", x -> x.setEnabled(-1, true), index);
        Lab.changesNothing(check, "setPriority(8, 0)", x -> x.setPriority(8, 0), index);
        Lab.changesNothing(check, "setPriority(0, 3)", x -> x.setPriority(0, 3), value);
        Lab.changesNothing(check, "setPriority(0, -1)", x -> x.setPriority(0, -1), value);
        Lab.changesNothing(check, "connect(8, ..)", x -> x.connect(8, 200, 0, 0, 0), index);
        Lab.changesNothing(check, "connect(7, 0, ..)", x -> x.connect(7, 0, 0, 0, 0), value);
        Lab.changesNothing(check, "connect(7, .., 1000)", x -> x.connect(7, 200, 0, 0, 1000), value);
        Lab.changesNothing(check, "connect(0, ..)", x -> x.connect(0, 200, 0, 10, 7), state);
        Lab.changesNothing(check, "connect(4, ..)", x -> x.connect(4, 200, 0, 10, 7), state);
        Lab.changesNothing(check, "connect(5, ..)", x -> x.connect(5, 200, 0, 10, 7), state);
        Lab.changesNothing(check, "disconnect(8)", x -> x.disconnect(8), index);
        Lab.changesNothing(check, "disconnect(7)", x -> x.disconnect(7), state);
        Lab.changesNothing(check, "setLoad(8, 1)", x -> x.setLoad(8, 1), index);
        Lab.changesNothing(check, "setLoad(0, 1000)", x -> x.setLoad(0, 1000), value);
        Lab.changesNothing(check, "setLoad(0, -1)", x -> x.setLoad(0, -1), value);
        Lab.changesNothing(check, "setLoad(7, 1)", x -> x.setLoad(7, 1), state);
        Lab.changesNothing(check, "setRequest(8, 1)", x -> x.setRequest(8, 1), index);
        Lab.changesNothing(check, "setRequest(7, 1)", x -> x.setRequest(7, 1), state);
        Lab.changesNothing(check, "setRequest(5, 1)", x -> x.setRequest(5, 1), state);
        Lab.changesNothing(check, "setRequest(0, 0)", x -> x.setRequest(0, 0), value);
        Lab.changesNothing(check, "setRequest(0, 301)", x -> x.setRequest(0, 301), value);
        Lab.changesNothing(check, "setRequest(0, 300)", x -> x.setRequest(0, 300), PoeSwitch.NO_BUDGET);
        Lab.changesNothing(check, "request(8)", x -> x.request(8), index);
        Lab.changesNothing(check, "grant(8)", x -> x.grant(8), index);
        Lab.changesNothing(check, "overload(8)", x -> x.overload(8), index);
        Lab.changesNothing(check, "cooldown(8)", x -> x.cooldown(8), index);
        Lab.changesNothing(check, "advance(0)", x -> x.advance(0), value);
        Lab.changesNothing(check, "advance(61)", x -> x.advance(61), value);
        Lab.changesNothing(check, "eventTime(16)", x -> x.eventTime(16), index);
        Lab.changesNothing(check, "eventPort(16)", x -> x.eventPort(16), index);
        Lab.changesNothing(check, "eventKind(16)", x -> x.eventKind(16), index);
        Lab.changesNothing(check, "shedIfFails(3)", x -> x.shedIfFails(3), index);
        Lab.changesNothing(check, "save(2)", x -> x.save(2), index);
        Lab.changesNothing(check, "restore(2)", x -> x.restore(2), index);
        Lab.changesNothing(check, "restore(1)", x -> x.restore(1), state);
    }

    // ---- budget

    private static void capacityRange(Check check) {
        for (int supply = 0; supply < 3; supply++) {
            PoeSwitch x = new PoeSwitch();
            x.setCapacity(0, 1);
            x.setCapacity(supply, 0);
            int others = x.budget();
            x.setCapacity(supply, 3000);
            check.due("budget with 3000 at " + supply, x.budget(), others + 3000);
            x.setCapacity(supply, 3001);
            check.due("budget, 3001 refused at " + supply, x.budget(), others + 3000);
            x.setCapacity(supply, 0);
            check.due("budget with 0 at " + supply, x.budget(), others);
            x.setCapacity(supply, -1);
            check.due("budget, -1 refused at " + supply, x.budget(), others);
        }
    }

    private static void workingOrFailed(Check check) {
        PoeSwitch x = new PoeSwitch();
        for (int supply = 0; supply < 3; supply++) {
            check.due("works", x.setWorking(supply, false), 1);
            check.due("failed", x.setWorking(supply, false), 0);
            check.due("failed still", x.setWorking(supply, true), 0);
            check.due("works again", x.setWorking(supply, true), 1);
        }
    }

    private static void initialSupplies(Check check) {
        PoeSwitch x = new PoeSwitch();
        check.due("budget", x.budget(), 1500);
        for (int supply = 0; supply < 3; supply++) {
            check.due("capacity of " + supply, x.setCapacity(supply, 1), supply == 0 ? 1500 : 0);
            check.due("working " + supply, x.setWorking(supply, true), 1);
        }
    }

    private static void budgetOfWorkingSupplies(Check check) {
        PoeSwitch x = new PoeSwitch();
        int[] capacities = {1, 20, 300};
        for (int supply = 0; supply < 3; supply++) {
            x.setCapacity(supply, capacities[supply]);
        }
        for (int set = 0; set < 8; set++) {
            int due = 0;
            for (int supply = 0; supply < 3; supply++) {
                boolean works = (set >> supply & 1) == 1;
                x.setWorking(supply, works);
                due += works ? capacities[supply] : 0;
            }
            check.due("budget with the supplies " + set, x.budget(), due);
        }
        for (int supply = 0; supply < 3; supply++) {
            x.setCapacity(supply, 3000);
        }
        check.due("largest budget", x.budget(), 9000);
    }

    private static void budgetAtLeastZero(Check check) {
        PoeSwitch x = new PoeSwitch();
        int[] reserves = {0, 1499, 1500, 1501, 3000};
        int[] budgets = {1500, 1, 0, 0, 0};
        for (int i = 0; i < reserves.length; i++) {
            x.setReserve(reserves[i]);
            check.due("budget with reserve " + reserves[i], x.budget(), budgets[i]);
            check.due("available with reserve " + reserves[i], x.available(), budgets[i]);
        }
        x.setReserve(1);
        x.setWorking(0, false);
        check.due("budget of no supply", x.budget(), 0);
    }

    private static void availablePower(Check check) {
        PoeSwitch x = Lab.withSmallDevicesPowered(8);
        check.due("with eight grants", x.available(), 1500 - 8 * 40);
        x.setCapacity(0, 321);
        check.due("one left", x.available(), 1);
        x.setCapacity(0, 320);
        check.due("none left", x.available(), 0);
        x.setCapacity(0, 319);
        check.due("one too little", x.available(), -1);
        x.setReserve(3000);
        check.due("the budget is 0, not below", x.available(), -320);
        x.setReserve(0);
        x.setRequest(7, 1);
        check.due("a smaller grant", x.available(), 38);
        x.disconnect(0);
        check.due("a grant less", x.available(), 78);
    }

    private static void negativeUntilTheNextSecond(Check check) {
        PoeSwitch x = Lab.withSmallDevicesPowered(2);
        x.setCapacity(0, 79);
        check.due("negative", x.available(), -1);
        x.budget();
        x.fittingPorts();
        x.stablePorts();
        check.due("negative still", x.available(), -1);
        x.advance(1);
        check.due("not any more", x.available(), 39);
    }

    // ---- ports and devices

    private static void initiallyEnabled(Check check) {
        PoeSwitch x = new PoeSwitch();
        for (int port = 0; port < 8; port++) {
            check.due("enabled " + port, x.setEnabled(port, false), 1);
            check.due("disabled " + port, x.setEnabled(port, true), 0);
            check.due("enabled again " + port, x.setEnabled(port, true), 1);
        }
    }

    private static void priorities(Check check) {
        PoeSwitch x = new PoeSwitch();
        for (int port = 0; port < 8; port++) {
            check.due("initially, port " + port, x.setPriority(port, 0), 2);
            check.due("critical", x.setPriority(port, 1), 0);
            check.due("high", x.setPriority(port, 2), 1);
            check.due("low", x.setPriority(port, 3), PoeSwitch.BAD_VALUE);
            check.due("below critical", x.setPriority(port, -1), PoeSwitch.BAD_VALUE);
        }
    }

    /** Port 0 or port 7 gets the only 40 there are. */
    private static int firstOf(int priorityOf0, int priorityOf7) {
        PoeSwitch x = new PoeSwitch();
        x.setCapacity(0, 40);
        Lab.plug(x, 0, Lab.CLASS_1, 0);
        Lab.plug(x, 7, Lab.CLASS_1, 0);
        x.setPriority(0, priorityOf0);
        x.setPriority(7, priorityOf7);
        x.advance(1);
        return x.poweredPorts();
    }

    private static void smallerPriorityFirst(Check check) {
        check.due("0 before 1", firstOf(1, 0), 128);
        check.due("0 before 2", firstOf(2, 0), 128);
        check.due("1 before 2", firstOf(2, 1), 128);
        check.due("the smaller port has it too", firstOf(0, 1), 1);
    }

    private static void smallerPortFirst(Check check) {
        for (int priority = 0; priority <= 2; priority++) {
            check.due("both have priority " + priority, firstOf(priority, priority), 1);
        }
        PoeSwitch x = Lab.withSmallDevicesPowered(8);
        for (int left = 7; left >= 0; left--) {
            x.setCapacity(0, 40 * left);
            x.advance(1);
            check.due("the largest number is last", x.poweredPorts(), (1 << left) - 1);
        }
    }

    private static void oneDevice(Check check) {
        PoeSwitch x = new PoeSwitch();
        for (int port = 0; port < 8; port++) {
            check.due("first device", x.connect(port, 200, 0, Lab.CLASS_1, 5), 1);
            check.due("second device", x.connect(port, 200, 0, Lab.CLASS_2, 6), PoeSwitch.BAD_STATE);
            check.due("the first is there", x.request(port), 40);
        }
        x.disconnect(0);
        check.due("in place of the first", x.connect(0, 200, 0, Lab.CLASS_2, 6), 2);
    }

    private static int connected(int resistance, int capacitance, int current, int load) {
        return new PoeSwitch().connect(0, resistance, capacitance, current, load);
    }

    private static void resistanceRange(Check check) {
        check.due("1", connected(1, 0, 0, 0), 0);
        check.due("999", connected(999, 0, 0, 0), 0);
        for (int wrong : Lab.outside(1, 999)) {
            check.due("" + wrong, connected(wrong, 0, 0, 0), PoeSwitch.BAD_VALUE);
        }
    }

    private static void capacitanceRange(Check check) {
        check.due("0", connected(200, 0, 0, 0), 0);
        check.due("99", connected(200, 99, 0, 0), 0);
        for (int wrong : Lab.outside(0, 99)) {
            check.due("" + wrong, connected(200, wrong, 0, 0), PoeSwitch.BAD_VALUE);
        }
    }

    private static void currentRange(Check check) {
        check.due("0", connected(200, 0, 0, 0), 0);
        check.due("60", connected(200, 0, 60, 0), PoeSwitch.NONE);
        for (int wrong : Lab.outside(0, 60)) {
            check.due("" + wrong, connected(200, 0, wrong, 0), PoeSwitch.BAD_VALUE);
        }
    }

    private static void loadRange(Check check) {
        check.due("0", connected(200, 0, 0, 0), 0);
        check.due("999", connected(200, 0, 0, 999), 0);
        for (int wrong : Lab.outside(0, 999)) {
            check.due("" + wrong, connected(200, 0, 0, wrong), PoeSwitch.BAD_VALUE);
        }
    }

    private static void drawsWhenPowered(Check check) {
        PoeSwitch x = new PoeSwitch();
        x.setCapacity(0, 39);
        Lab.plug(x, 0, Lab.CLASS_1, 999);
        check.due("no power, so nothing to cut", x.advance(60), 0);
        check.due("nothing is counted", x.overload(0), 0);
        x.setCapacity(0, 40);
        x.advance(2);
        check.due("powered, it draws", x.overload(0), 1);
        check.due("what it draws is not taken from the budget", x.available(), 0);
    }

    private static int eligible(int resistance, int capacitance) {
        PoeSwitch x = new PoeSwitch();
        x.connect(3, resistance, capacitance, 0, 0);
        return x.eligiblePorts();
    }

    private static void detectedResistance(Check check) {
        int[] resistances = {1, 189, 190, 191, 228, 264, 265, 266, 999};
        for (int resistance : resistances) {
            boolean due = resistance >= 190 && resistance <= 265;
            check.due("resistance " + resistance, eligible(resistance, 0), due ? 8 : 0);
        }
    }

    private static void detectedCapacitance(Check check) {
        int[] capacitances = {0, 1, 14, 15, 16, 17, 99};
        for (int capacitance : capacitances) {
            check.due("capacitance " + capacitance, eligible(265, capacitance), capacitance <= 15 ? 8 : 0);
            check.due("of no use with 266", eligible(266, capacitance), 0);
            check.due("of no use with 189", eligible(189, capacitance), 0);
        }
    }

    private static void classByCurrentAlone(Check check) {
        int[] currents = {0, 10, 18, 28, 40};
        int[] resistances = {1, 189, 190, 265, 266, 999};
        for (int deviceClass = 0; deviceClass < 5; deviceClass++) {
            for (int resistance : resistances) {
                int current = currents[deviceClass];
                check.due("not loaded", connected(resistance, 0, current, 0), deviceClass);
                check.due("loaded", connected(resistance, 99, current, 999), deviceClass);
            }
        }
        check.due("no class, detected", connected(200, 0, 5, 0), PoeSwitch.NONE);
        check.due("no class, not detected", connected(1, 99, 5, 999), PoeSwitch.NONE);
    }

    private static void classEdges(Check check) {
        int[] from = {0, 9, 17, 26, 36};
        int[] to = {4, 12, 20, 30, 44};
        for (int i = 0; i < from.length; i++) {
            for (int current = from[i]; current <= to[i]; current++) {
                check.due("current " + current, connected(200, 0, current, 0), i);
            }
            for (int current = to[i] + 1; current < (i < 4 ? from[i + 1] : 61); current++) {
                check.due("current " + current, connected(200, 0, current, 0), PoeSwitch.NONE);
            }
        }
    }

    private static void maximumEdges(Check check) {
        int[] currents = {0, 9, 17, 26, 36};
        int[] maxima = {154, 40, 70, 154, 300};
        for (int i = 0; i < currents.length; i++) {
            PoeSwitch x = new PoeSwitch();
            Lab.plug(x, i, currents[i], 0);
            check.due("above the maximum", x.setRequest(i, maxima[i] + 1), PoeSwitch.BAD_VALUE);
            check.due("the maximum", x.setRequest(i, maxima[i]), maxima[i]);
        }
    }

    private static void requestNeedsClass(Check check) {
        int[] currents = {5, 8, 13, 16, 21, 25, 31, 35, 45, 60};
        for (int current : currents) {
            PoeSwitch x = new PoeSwitch();
            Lab.plug(x, 1, current, 0);
            check.due("no class at " + current, x.request(1), PoeSwitch.NONE);
        }
        PoeSwitch x = new PoeSwitch();
        x.connect(1, 999, 99, Lab.CLASS_1, 0);
        check.due("a class, though not detected", x.request(1), 40);
    }

    private static void initialRequest(Check check) {
        int[] currents = {0, 4, 9, 12, 17, 20, 26, 30, 36, 44};
        int[] maxima = {154, 154, 40, 40, 70, 70, 154, 154, 300, 300};
        PoeSwitch x = new PoeSwitch();
        for (int i = 0; i < currents.length; i++) {
            Lab.plug(x, 2, currents[i], 0);
            check.due("current " + currents[i], x.request(2), maxima[i]);
            x.setRequest(2, 1);
            // A later device does not take over what an earlier one asked for.
            x.disconnect(2);
        }
    }

    private static void eligibleEnabled(Check check) {
        PoeSwitch x = Lab.withSmallDevices(8);
        check.due("all", x.eligiblePorts(), 255);
        x.setEnabled(0, false);
        x.setEnabled(7, false);
        check.due("but the disabled ones", x.eligiblePorts(), 126);
        x.setEnabled(7, true);
        check.due("enabled again", x.eligiblePorts(), 254);
    }

    private static void eligibleConnected(Check check) {
        PoeSwitch x = new PoeSwitch();
        check.due("no device", x.eligiblePorts(), 0);
        Lab.plug(x, 6, Lab.CLASS_1, 0);
        check.due("a device", x.eligiblePorts(), 64);
        x.disconnect(6);
        check.due("none again", x.eligiblePorts(), 0);
    }

    private static void eligibleDevice(Check check) {
        PoeSwitch x = new PoeSwitch();
        x.connect(0, 200, 16, Lab.CLASS_1, 0);
        x.connect(1, 189, 0, Lab.CLASS_1, 0);
        x.connect(2, 200, 0, Lab.NO_CLASS, 0);
        x.connect(3, 189, 16, Lab.NO_CLASS, 0);
        x.connect(4, 200, 15, Lab.CLASS_1, 0);
        check.due("only the detected one with a class", x.eligiblePorts(), 16);
        check.due("only that one is powered", x.advance(60), 1);
        check.due("powered", x.poweredPorts(), 16);
    }

    // ---- power state

    private static void grantAboveZero(Check check) {
        PoeSwitch x = new PoeSwitch();
        x.setCapacity(0, 1);
        Lab.plug(x, 0, Lab.CLASS_1, 2);
        check.due("a request of 0 is refused", x.setRequest(0, 0), PoeSwitch.BAD_VALUE);
        x.setRequest(0, 1);
        check.due("powered up", x.advance(2), 1);
        check.due("the smallest grant", x.grant(0), 1);
        check.due("is powered", x.poweredPorts(), 1);
        check.due("its counter", x.overload(0), 1);
        check.due("a grant of 0 is refused", x.setRequest(0, 0), PoeSwitch.BAD_VALUE);
        check.due("the grant stays", x.grant(0), 1);
    }

    /** Ports 0 and 1 are powered, and 1 has overload counter 2. */
    private static PoeSwitch overloaded() {
        PoeSwitch x = Lab.withSmallDevicesPowered(2);
        x.setLoad(1, 41);
        x.advance(2);
        return x;
    }

    private static void nothingAt1(Check check, String why, PoeSwitch x) {
        check.due(why + ", grant", x.grant(1), 0);
        check.due(why + ", counter", x.overload(1), 0);
        check.due(why + ", powered", x.poweredPorts(), 1);
    }

    private static void unpoweredHasNothing(Check check) {
        check.due("powered, counter", overloaded().overload(1), 2);
        PoeSwitch shed = overloaded();
        shed.setCapacity(0, 79);
        shed.advance(1);
        nothingAt1(check, "shed", shed);
        PoeSwitch cut = overloaded();
        cut.advance(1);
        nothingAt1(check, "cut", cut);
        PoeSwitch disabled = overloaded();
        disabled.setEnabled(1, false);
        nothingAt1(check, "disabled", disabled);
        PoeSwitch disconnected = overloaded();
        disconnected.disconnect(1);
        nothingAt1(check, "disconnected", disconnected);
        PoeSwitch waiting = new PoeSwitch();
        Lab.plug(waiting, 1, Lab.CLASS_1, 999);
        check.due("not yet powered, grant", waiting.grant(1), 0);
        waiting.setCapacity(0, 0);
        waiting.advance(10);
        check.due("never powered, grant", waiting.grant(1), 0);
        check.due("never powered, counter", waiting.overload(1), 0);
    }

    private static void initialCooldown(Check check) {
        PoeSwitch x = Lab.withSmallDevices(8);
        for (int port = 0; port < 8; port++) {
            check.due("port " + port, x.cooldown(port), 0);
        }
        x.advance(1);
        check.due("so it is powered at once", x.poweredPorts(), 1);
    }

    private static void initialTimer(Check check) {
        PoeSwitch x = new PoeSwitch();
        check.due("nothing to wait for", x.secondsToStable(), 0);
        x.setRestartGap(30);
        Lab.plug(x, 0, Lab.CLASS_1, 0);
        check.due("powered in the first second", x.advance(1), 1);
    }

    /** Port 0 is in cooldown with 5 seconds to go. */
    private static PoeSwitch coolingDown() {
        PoeSwitch x = new PoeSwitch();
        Lab.plug(x, 0, Lab.CLASS_1, 41);
        x.advance(4);
        return x;
    }

    private static void disabledLosesPower(Check check) {
        PoeSwitch x = Lab.withSmallDevicesPowered(8);
        x.setEnabled(0, false);
        check.due("at once", x.poweredPorts(), 254);
        x.setEnabled(7, false);
        check.due("at once", x.poweredPorts(), 126);
        check.due("the power is free", x.available(), 1500 - 6 * 40);
        x.setEnabled(0, true);
        check.due("enabling gives no power yet", x.poweredPorts(), 126);
    }

    private static void disconnectedLosesPower(Check check) {
        PoeSwitch x = Lab.withSmallDevicesPowered(8);
        x.disconnect(0);
        check.due("at once", x.poweredPorts(), 254);
        x.disconnect(7);
        check.due("at once", x.poweredPorts(), 126);
        check.due("the power is free", x.available(), 1500 - 6 * 40);
        Lab.plug(x, 0, Lab.CLASS_1, 0);
        check.due("connecting gives no power yet", x.poweredPorts(), 126);
    }

    private static void cooldownBecomesZero(Check check) {
        PoeSwitch x = coolingDown();
        check.due("before", x.cooldown(0), 5);
        x.setEnabled(0, false);
        check.due("disabled", x.cooldown(0), 0);
        x.setEnabled(0, true);
        check.due("no wait after it", x.advance(1), 1);
        PoeSwitch y = coolingDown();
        y.disconnect(0);
        check.due("disconnected", y.cooldown(0), 0);
        Lab.plug(y, 0, Lab.CLASS_1, 0);
        check.due("no wait for the next device", y.advance(1), 1);
    }

    private static void noEventForIt(Check check) {
        PoeSwitch x = Lab.withSmallDevicesPowered(2);
        x.setEnabled(0, false);
        x.disconnect(1);
        check.due("the log is as it was", x.eventCount(), 2);
        Lab.event(check, x, 1, 2, 1, PoeSwitch.POWERED);
        check.due("nor does the next second tell it", x.advance(1), 0);
        check.due("the log is as it was", x.eventCount(), 2);
    }
}
