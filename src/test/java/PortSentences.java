/** Promises 10 to 17: ports and devices. */
final class PortSentences {
    private PortSentences() {
    }

    static void enter(Book book) {
        book.section("Promise 10");
        book.plain("---- ports and devices");
        book.test("Enables or disables a port.", PortSentences::enablesOnePort);
        book.plain("port: port number");
        book.plain("enabled: true to enable the port");
        book.test("Returns 1 if the port was enabled before, 0 if not", PortSentences::enabledBefore);
        book.test("NO_SUCH_INDEX if the port does not exist", PortSentences::enableNoPort);

        book.section("Promise 11");
        book.test("Sets the priority of a port.", PortSentences::priorityAtWork);
        book.test("A powered port stays powered.", PortSentences::staysPowered);
        book.plain("port: port number");
        book.test("priority: new priority, 0 to 2", PortSentences::priorityEdges);
        book.test("Returns the previous priority", PortSentences::previousPriority);
        book.test("NO_SUCH_INDEX if the port does not exist", PortSentences::priorityNoPort);
        book.test("BAD_VALUE if the priority is out of range", PortSentences::priorityOutOfRange);

        enterConnect(book);

        book.section("Promise 13");
        book.test("Disconnects the device of a port.", PortSentences::disconnects);
        book.plain("port: port number");
        book.test("Returns 1 if the port was powered, 0 if not", PortSentences::wasPowered);
        book.test("NO_SUCH_INDEX if the port does not exist", PortSentences::disconnectNoPort);
        book.test("BAD_STATE if no device is connected", PortSentences::nothingToDisconnect);

        book.section("Promise 14");
        book.test("Changes the load of a connected device.", PortSentences::changesLoad);
        book.plain("port: port number");
        book.test("load: new load, 0 to 999", PortSentences::loadEdges);
        book.test("Returns the previous load", PortSentences::previousLoad);
        book.test("NO_SUCH_INDEX if the port does not exist", PortSentences::loadNoPort);
        book.test("BAD_VALUE if the load is out of range", PortSentences::loadOutOfRange);
        book.test("BAD_STATE if no device is connected", PortSentences::loadNoDevice);

        enterRequest(book);

        book.section("Promise 17");
        book.test("Returns the set of eligible ports.", PortSentences::eligibleSet);
    }

    private static void enterConnect(Book book) {
        book.section("Promise 12");
        book.test("Connects a device to a port.", PortSentences::connects);
        book.plain("port: port number");
        book.test("resistance: 1 to 999, tenths of a kilohm", PortSentences::connectResistance);
        book.test("capacitance: 0 to 99, tenths of a microfarad", PortSentences::connectCapacitance);
        book.test("current: classification current, 0 to 60 milliamperes", PortSentences::connectCurrent);
        book.test("load: power that the device draws when powered, 0 to 999", PortSentences::connectLoad);
        book.test("Returns the class of the device", PortSentences::returnsClass);
        book.test("(also if it is not detected)", PortSentences::returnsClassUndetected);
        book.test("or NONE if it has no class", PortSentences::connectsWithoutClass);
        book.test("NO_SUCH_INDEX if the port does not exist", PortSentences::connectNoPort);
        book.test("BAD_VALUE if one of the other parameters is out of range",
                PortSentences::connectOneOutOfRange);
        book.test("BAD_STATE if a device is already connected", PortSentences::alreadyConnected);
    }

    private static void enterRequest(Book book) {
        book.section("Promise 15");
        book.test("Changes the requested power of a connected device, as the device would do with an LLDP"
                + " message.", PortSentences::changesRequest);
        book.test("If the port is powered, its grant becomes the new requested power at once.",
                PortSentences::grantAtOnce);
        book.plain("port: port number");
        book.test("power: new requested power, 1 to the maximum of the device's class",
                PortSentences::requestEdges);
        book.test("Returns the previous requested power", PortSentences::previousRequest);
        book.test("NO_SUCH_INDEX if the port does not exist", PortSentences::changeRequestNoPort);
        book.test("BAD_STATE if no device is connected", PortSentences::changeRequestNoDevice);
        book.test("or the device has no class", PortSentences::changeRequestNoClass);
        book.test("BAD_VALUE if the power is out of range", PortSentences::requestOutOfRange);
        book.test("NO_BUDGET if the port is powered", PortSentences::noBudgetOnlyIfPowered);
        book.test("the power is greater than its grant", PortSentences::noBudgetOnlyIfGreater);
        book.test("and the difference is greater than the available power",
                PortSentences::noBudgetOnlyIfTooMuch);

        book.section("Promise 16");
        book.test("Returns the requested power of the device of a port.", PortSentences::ownRequest);
        book.plain("port: port number");
        book.test("Returns the requested power", PortSentences::requestPoweredOrNot);
        book.test("NONE if no device is connected", PortSentences::requestNoDevice);
        book.test("or it has no class", PortSentences::requestNoClass);
        book.test("NO_SUCH_INDEX if the port does not exist", PortSentences::requestNoPort);
    }

    private static void refused(Check check, Lab.Call call, String name, int due) {
        PoeSwitch x = Lab.busy();
        String before = Lab.look(x);
        check.due(name, call.on(x), due);
        check.due(name + " leaves all as it was", Lab.look(x).equals(before) ? 1 : 0, 1);
    }

    // ---- promise 10

    private static void enablesOnePort(Check check) {
        for (int port = 0; port < 8; port++) {
            PoeSwitch x = Lab.withSmallDevicesPowered(8);
            x.setEnabled(port, false);
            check.due("without " + port, x.eligiblePorts(), 255 - (1 << port));
            check.due("without power " + port, x.poweredPorts(), 255 - (1 << port));
            check.due("not powered while disabled", x.advance(60), 0);
            x.setEnabled(port, true);
            check.due("with " + port, x.eligiblePorts(), 255);
            check.due("powered again", x.advance(1), 1);
        }
        PoeSwitch y = Lab.withSmallDevicesPowered(1);
        y.setLoad(0, 41);
        y.advance(1);
        y.setEnabled(0, true);
        check.due("enabling an enabled port leaves its power", y.grant(0), 40);
        check.due("and its counter", y.overload(0), 1);
        y.advance(2);
        y.setEnabled(0, true);
        check.due("and its cooldown", y.cooldown(0), 5);
    }

    private static void enabledBefore(Check check) {
        PoeSwitch x = new PoeSwitch();
        for (int port = 0; port < 8; port++) {
            check.due("enabled", x.setEnabled(port, true), 1);
            check.due("enabled, disable", x.setEnabled(port, false), 1);
            check.due("disabled", x.setEnabled(port, false), 0);
            check.due("disabled, enable", x.setEnabled(port, true), 0);
            check.due("enabled again", x.setEnabled(port, true), 1);
        }
    }

    private static void enableNoPort(Check check) {
        for (int port : Lab.outside(0, 7)) {
            refused(check, x -> x.setEnabled(port, false), "disable " + port, PoeSwitch.NO_SUCH_INDEX);
            refused(check, x -> x.setEnabled(port, true), "enable " + port, PoeSwitch.NO_SUCH_INDEX);
        }
    }

    // ---- promise 11

    private static void priorityAtWork(Check check) {
        PoeSwitch x = Lab.withSmallDevices(8);
        x.setRestartGap(1);
        for (int port = 0; port < 8; port++) {
            x.setPriority(port, port == 7 ? 0 : port == 6 ? 1 : 2);
        }
        x.advance(3);
        check.due("7, then 6, then 0", x.poweredPorts(), 128 + 64 + 1);
        Lab.event(check, x, 0, 0, 7, PoeSwitch.POWERED);
        Lab.event(check, x, 1, 1, 6, PoeSwitch.POWERED);
        Lab.event(check, x, 2, 2, 0, PoeSwitch.POWERED);
    }

    private static void staysPowered(Check check) {
        PoeSwitch x = Lab.withSmallDevicesPowered(1);
        x.setCapacity(0, 40);
        x.setPriority(0, 1);
        Lab.plug(x, 1, Lab.CLASS_1, 0);
        x.setPriority(1, 0);
        x.setPriority(0, 2);
        check.due("powered at once", x.poweredPorts(), 1);
        check.due("no event later", x.advance(60), 0);
        check.due("powered later", x.poweredPorts(), 1);
    }

    private static void priorityEdges(Check check) {
        PoeSwitch x = new PoeSwitch();
        for (int port = 0; port < 8; port++) {
            check.due("smallest", x.setPriority(port, 0), 2);
            check.due("in between", x.setPriority(port, 1), 0);
            check.due("largest", x.setPriority(port, 2), 1);
            check.due("kept", x.setPriority(port, 2), 2);
        }
    }

    private static void previousPriority(Check check) {
        PoeSwitch x = new PoeSwitch();
        for (int port = 0; port < 8; port++) {
            x.setPriority(port, port % 3);
            x.setPriority(port, 3);
            x.setPriority(port, -1);
        }
        for (int port = 0; port < 8; port++) {
            check.due("own value of " + port, x.setPriority(port, 0), port % 3);
        }
    }

    private static void priorityNoPort(Check check) {
        for (int port : Lab.outside(0, 7)) {
            refused(check, x -> x.setPriority(port, 0), "port " + port, PoeSwitch.NO_SUCH_INDEX);
            refused(check, x -> x.setPriority(port, 3), "both, port " + port, PoeSwitch.NO_SUCH_INDEX);
        }
    }

    private static void priorityOutOfRange(Check check) {
        PoeSwitch x = new PoeSwitch();
        for (int priority : Lab.outside(0, 2)) {
            check.due("priority " + priority, x.setPriority(0, priority), PoeSwitch.BAD_VALUE);
            check.due("priority " + priority, x.setPriority(7, priority), PoeSwitch.BAD_VALUE);
        }
        check.due("as it was", x.setPriority(0, 0), 2);
        check.due("as it was", x.setPriority(7, 0), 2);
    }

    // ---- promise 12

    private static void connects(Check check) {
        for (int port = 0; port < 8; port++) {
            PoeSwitch x = new PoeSwitch();
            x.connect(port, 200, 0, Lab.CLASS_1, 3);
            check.due("eligible", x.eligiblePorts(), 1 << port);
            check.due("request", x.request(port), 40);
            check.due("load", x.setLoad(port, 3), 3);
            check.due("not powered yet", x.poweredPorts(), 0);
            check.due("powered in the next second", x.advance(1), 1);
        }
        PoeSwitch y = new PoeSwitch();
        y.setEnabled(0, false);
        check.due("to a disabled port", y.connect(0, 200, 0, Lab.CLASS_1, 0), 1);
        check.due("which stays disabled", y.setEnabled(0, true), 0);
        check.due("the device is there", y.eligiblePorts(), 1);
    }

    private static void connectResistance(Check check) {
        PoeSwitch x = new PoeSwitch();
        check.due("0", x.connect(0, 0, 0, 0, 0), PoeSwitch.BAD_VALUE);
        check.due("1", x.connect(0, 1, 0, 0, 0), 0);
        check.due("1000", x.connect(1, 1000, 0, 0, 0), PoeSwitch.BAD_VALUE);
        check.due("999", x.connect(1, 999, 0, 0, 0), 0);
    }

    private static void connectCapacitance(Check check) {
        PoeSwitch x = new PoeSwitch();
        check.due("-1", x.connect(0, 200, -1, 0, 0), PoeSwitch.BAD_VALUE);
        check.due("0", x.connect(0, 200, 0, 0, 0), 0);
        check.due("100", x.connect(1, 200, 100, 0, 0), PoeSwitch.BAD_VALUE);
        check.due("99", x.connect(1, 200, 99, 0, 0), 0);
    }

    private static void connectCurrent(Check check) {
        PoeSwitch x = new PoeSwitch();
        check.due("-1", x.connect(0, 200, 0, -1, 0), PoeSwitch.BAD_VALUE);
        check.due("0", x.connect(0, 200, 0, 0, 0), 0);
        check.due("61", x.connect(1, 200, 0, 61, 0), PoeSwitch.BAD_VALUE);
        check.due("60", x.connect(1, 200, 0, 60, 0), PoeSwitch.NONE);
    }

    private static void connectLoad(Check check) {
        PoeSwitch x = new PoeSwitch();
        check.due("-1", x.connect(0, 200, 0, 0, -1), PoeSwitch.BAD_VALUE);
        check.due("0", x.connect(0, 200, 0, 0, 0), 0);
        check.due("1000", x.connect(1, 200, 0, 0, 1000), PoeSwitch.BAD_VALUE);
        check.due("999", x.connect(1, 200, 0, 0, 999), 0);
        check.due("0 is kept", x.setLoad(0, 0), 0);
        check.due("999 is kept", x.setLoad(1, 0), 999);
    }

    private static void returnsClass(Check check) {
        int[] currents = {0, 4, 9, 12, 17, 20, 26, 30, 36, 44};
        for (int i = 0; i < currents.length; i++) {
            PoeSwitch x = new PoeSwitch();
            check.due("current " + currents[i], x.connect(7, 190, 15, currents[i], 999), i / 2);
        }
    }

    private static void returnsClassUndetected(Check check) {
        int[] currents = {0, 4, 9, 12, 17, 20, 26, 30, 36, 44};
        for (int i = 0; i < currents.length; i++) {
            PoeSwitch x = new PoeSwitch();
            check.due("resistance 189", x.connect(0, 189, 0, currents[i], 0), i / 2);
            check.due("resistance 266", x.connect(1, 266, 0, currents[i], 0), i / 2);
            check.due("capacitance 16", x.connect(2, 200, 16, currents[i], 0), i / 2);
            check.due("none is detected", x.eligiblePorts(), 0);
        }
    }

    private static void connectsWithoutClass(Check check) {
        int[] currents = {5, 8, 13, 16, 21, 25, 31, 35, 45, 60};
        for (int current : currents) {
            PoeSwitch x = new PoeSwitch();
            check.due("current " + current, x.connect(4, 200, 0, current, 17), PoeSwitch.NONE);
            // NONE is an answer, not an error: the device is connected.
            check.due("its load, current " + current, x.setLoad(4, 0), 17);
            check.due("taken, current " + current, x.connect(4, 200, 0, 0, 0), PoeSwitch.BAD_STATE);
            check.due("never powered, current " + current, x.advance(60), 0);
            check.due("to disconnect, current " + current, x.disconnect(4), 0);
        }
    }

    private static void connectNoPort(Check check) {
        for (int port : Lab.outside(0, 7)) {
            refused(check, x -> x.connect(port, 200, 0, 0, 0), "port " + port, PoeSwitch.NO_SUCH_INDEX);
            refused(check, x -> x.connect(port, 0, 100, 61, -1), "all, port " + port,
                    PoeSwitch.NO_SUCH_INDEX);
        }
    }

    private static void connectOneOutOfRange(Check check) {
        int[][] ranges = {{1, 999}, {0, 99}, {0, 60}, {0, 999}};
        for (int which = 0; which < 4; which++) {
            for (int wrong : Lab.outside(ranges[which][0], ranges[which][1])) {
                int[] v = {200, 0, 0, 0};
                v[which] = wrong;
                PoeSwitch x = new PoeSwitch();
                String name = "parameter " + which + " is " + wrong;
                check.due(name, x.connect(3, v[0], v[1], v[2], v[3]), PoeSwitch.BAD_VALUE);
                check.due(name + ", nothing is connected", x.disconnect(3), PoeSwitch.BAD_STATE);
                Lab.plug(x, 3, 0, 0);
                check.due(name + ", a device is there", x.connect(3, v[0], v[1], v[2], v[3]),
                        PoeSwitch.BAD_VALUE);
            }
        }
    }

    private static void alreadyConnected(Check check) {
        refused(check, x -> x.connect(0, 200, 0, 0, 0), "powered device", PoeSwitch.BAD_STATE);
        refused(check, x -> x.connect(1, 200, 0, 0, 0), "cooling down", PoeSwitch.BAD_STATE);
        refused(check, x -> x.connect(3, 200, 0, 0, 0), "disabled port", PoeSwitch.BAD_STATE);
        refused(check, x -> x.connect(4, 200, 0, 0, 0), "not detected", PoeSwitch.BAD_STATE);
        refused(check, x -> x.connect(5, 200, 0, 0, 0), "no class", PoeSwitch.BAD_STATE);
        PoeSwitch y = Lab.busy();
        check.due("an empty port", y.connect(7, 200, 0, 0, 0), 0);
        check.due("an empty disabled port", y.connect(6, 200, 0, 0, 0), 0);
    }

    // ---- promise 13

    private static void disconnects(Check check) {
        for (int port = 0; port < 8; port++) {
            PoeSwitch x = Lab.withSmallDevices(8);
            x.setPriority(port, 1);
            x.disconnect(port);
            check.due("one device less", x.eligiblePorts(), 255 - (1 << port));
            check.due("no request", x.request(port), PoeSwitch.NONE);
            check.due("the port keeps its priority", x.setPriority(port, 2), 1);
            check.due("the port stays enabled", x.setEnabled(port, true), 1);
        }
    }

    private static void wasPowered(Check check) {
        PoeSwitch x = Lab.busy();
        check.due("powered", x.disconnect(0), 1);
        check.due("cooling down", x.disconnect(1), 0);
        check.due("powered and overloaded", x.disconnect(2), 1);
        check.due("disabled", x.disconnect(3), 0);
        check.due("not detected", x.disconnect(4), 0);
        check.due("no class", x.disconnect(5), 0);
        PoeSwitch y = Lab.withSmallDevices(1);
        check.due("before its first second", y.disconnect(0), 0);
        Lab.plug(y, 0, Lab.CLASS_1, 0);
        y.setRequest(0, 1);
        y.advance(1);
        check.due("powered with 1", y.disconnect(0), 1);
    }

    private static void disconnectNoPort(Check check) {
        for (int port : Lab.outside(0, 7)) {
            refused(check, x -> x.disconnect(port), "port " + port, PoeSwitch.NO_SUCH_INDEX);
        }
    }

    private static void nothingToDisconnect(Check check) {
        refused(check, x -> x.disconnect(7), "empty", PoeSwitch.BAD_STATE);
        refused(check, x -> x.disconnect(6), "empty and disabled", PoeSwitch.BAD_STATE);
        PoeSwitch y = Lab.withSmallDevicesPowered(1);
        y.disconnect(0);
        check.due("a second time", y.disconnect(0), PoeSwitch.BAD_STATE);
    }

    // ---- promise 14

    private static void changesLoad(Check check) {
        PoeSwitch x = Lab.withSmallDevicesPowered(2);
        x.setLoad(1, 41);
        check.due("not before the next second", x.overload(1), 0);
        x.advance(1);
        check.due("overloaded", x.overload(1), 1);
        check.due("the other one is not", x.overload(0), 0);
        x.setLoad(1, 40);
        x.advance(1);
        check.due("not any more", x.overload(1), 0);
        check.due("the request is another thing", x.request(1), 40);
    }

    private static void loadEdges(Check check) {
        PoeSwitch x = Lab.withSmallDevices(8);
        for (int port = 0; port < 8; port++) {
            check.due("largest", x.setLoad(port, 999), 0);
            check.due("next to it", x.setLoad(port, 998), 999);
            check.due("next to the smallest", x.setLoad(port, 1), 998);
            check.due("smallest", x.setLoad(port, 0), 1);
            check.due("kept", x.setLoad(port, 0), 0);
        }
    }

    private static void previousLoad(Check check) {
        PoeSwitch x = Lab.busy();
        int[] loads = {100, 41, 71, 10, 11, 12};
        for (int port = 0; port < 6; port++) {
            check.due("as connected or set, port " + port, x.setLoad(port, 500 + port), loads[port]);
            x.setLoad(port, 1000);
        }
        for (int port = 0; port < 6; port++) {
            check.due("own value, port " + port, x.setLoad(port, 0), 500 + port);
        }
    }

    private static void loadNoPort(Check check) {
        for (int port : Lab.outside(0, 7)) {
            refused(check, x -> x.setLoad(port, 5), "port " + port, PoeSwitch.NO_SUCH_INDEX);
            refused(check, x -> x.setLoad(port, -1), "both, port " + port, PoeSwitch.NO_SUCH_INDEX);
        }
    }

    private static void loadOutOfRange(Check check) {
        PoeSwitch x = Lab.withSmallDevices(1);
        for (int load : Lab.outside(0, 999)) {
            check.due("load " + load, x.setLoad(0, load), PoeSwitch.BAD_VALUE);
            check.due("no device either, load " + load, x.setLoad(1, load), PoeSwitch.BAD_VALUE);
        }
        check.due("as it was", x.setLoad(0, 0), 0);
    }

    private static void loadNoDevice(Check check) {
        refused(check, x -> x.setLoad(7, 0), "empty, smallest", PoeSwitch.BAD_STATE);
        refused(check, x -> x.setLoad(7, 999), "empty, largest", PoeSwitch.BAD_STATE);
        PoeSwitch y = Lab.withSmallDevices(1);
        y.disconnect(0);
        check.due("disconnected", y.setLoad(0, 5), PoeSwitch.BAD_STATE);
        Lab.plug(y, 0, Lab.CLASS_1, 6);
        check.due("the next device has its own", y.setLoad(0, 0), 6);
    }

    // ---- promise 15

    private static void changesRequest(Check check) {
        PoeSwitch x = Lab.withSmallDevices(2);
        x.setRequest(1, 39);
        check.due("changed", x.request(1), 39);
        check.due("not the other one", x.request(0), 40);
        check.due("not powered by it", x.grant(1), 0);
        x.advance(3);
        check.due("granted when powered", x.grant(1), 39);
        PoeSwitch y = Lab.busy();
        check.due("a device in cooldown", y.setRequest(1, 5), 40);
        check.due("a disabled port", y.setRequest(3, 6), 154);
        check.due("a device that is not detected", y.setRequest(4, 7), 154);
        check.due("all", y.request(1) * 100 + y.request(3) * 10 + y.request(4), 567);
        check.due("none is powered by it", y.poweredPorts(), 5);
    }

    private static void grantAtOnce(Check check) {
        PoeSwitch x = Lab.withSmallDevicesPowered(2);
        x.setRequest(0, 1);
        check.due("smallest", x.grant(0), 1);
        check.due("more is available", x.available(), 1500 - 41);
        x.setRequest(0, 40);
        check.due("largest", x.grant(0), 40);
        check.due("less is available", x.available(), 1500 - 80);
        check.due("the other grant stays", x.grant(1), 40);
        check.due("no event", x.eventCount(), 2);
        x.setLoad(0, 40);
        x.setRequest(0, 39);
        x.advance(1);
        check.due("the new grant counts for overload", x.overload(0), 1);
        x.setRequest(0, 40);
        check.due("the counter stays until the next second", x.overload(0), 1);
        x.advance(1);
        check.due("then it is 0", x.overload(0), 0);
    }

    private static void requestEdges(Check check) {
        int[] currents = {Lab.CLASS_0, Lab.CLASS_1, Lab.CLASS_2, Lab.CLASS_3, Lab.CLASS_4};
        int[] maxima = {154, 40, 70, 154, 300};
        PoeSwitch x = new PoeSwitch();
        for (int port = 0; port < 5; port++) {
            Lab.plug(x, port, currents[port], 0);
        }
        for (int round = 0; round < 2; round++) {
            for (int port = 0; port < 5; port++) {
                check.due("smallest of class " + port, x.setRequest(port, 1), maxima[port]);
                check.due("next below the largest", x.setRequest(port, maxima[port] - 1), 1);
                check.due("largest of class " + port, x.setRequest(port, maxima[port]), maxima[port] - 1);
                check.due("kept", x.request(port), maxima[port]);
            }
            // The second round is asked of powered ports.
            x.advance(20);
        }
    }

    private static void previousRequest(Check check) {
        PoeSwitch x = Lab.withSmallDevicesPowered(1);
        check.due("the maximum at first", x.setRequest(0, 30), 40);
        check.due("then what was set", x.setRequest(0, 20), 30);
        x.setRequest(0, 41);
        x.setRequest(0, 0);
        check.due("a refused value is none", x.setRequest(0, 20), 20);
        x.setCapacity(0, 0);
        x.advance(1);
        check.due("also without power", x.setRequest(0, 10), 20);
    }

    private static void changeRequestNoPort(Check check) {
        for (int port : Lab.outside(0, 7)) {
            refused(check, x -> x.setRequest(port, 5), "port " + port, PoeSwitch.NO_SUCH_INDEX);
            refused(check, x -> x.setRequest(port, 0), "both, port " + port, PoeSwitch.NO_SUCH_INDEX);
        }
    }

    private static void changeRequestNoDevice(Check check) {
        refused(check, x -> x.setRequest(7, 1), "empty", PoeSwitch.BAD_STATE);
        refused(check, x -> x.setRequest(7, 0), "empty, bad value", PoeSwitch.BAD_STATE);
        refused(check, x -> x.setRequest(7, 301), "empty, bad value", PoeSwitch.BAD_STATE);
        PoeSwitch y = Lab.withSmallDevices(1);
        y.disconnect(0);
        check.due("disconnected", y.setRequest(0, 5), PoeSwitch.BAD_STATE);
    }

    private static void changeRequestNoClass(Check check) {
        refused(check, x -> x.setRequest(5, 1), "no class", PoeSwitch.BAD_STATE);
        refused(check, x -> x.setRequest(5, 0), "no class, bad value", PoeSwitch.BAD_STATE);
        refused(check, x -> x.setRequest(5, 301), "no class, bad value", PoeSwitch.BAD_STATE);
        PoeSwitch y = Lab.withSmallDevices(1);
        y.disconnect(0);
        Lab.plug(y, 0, Lab.NO_CLASS, 0);
        check.due("after a device with a class", y.setRequest(0, 5), PoeSwitch.BAD_STATE);
    }

    private static void requestOutOfRange(Check check) {
        int[] currents = {Lab.CLASS_0, Lab.CLASS_1, Lab.CLASS_2, Lab.CLASS_3, Lab.CLASS_4};
        int[] maxima = {154, 40, 70, 154, 300};
        for (int i = 0; i < 5; i++) {
            PoeSwitch x = new PoeSwitch();
            Lab.plug(x, 0, currents[i], 0);
            for (int round = 0; round < 2; round++) {
                for (int power : Lab.outside(1, maxima[i])) {
                    check.due("class " + i + ", " + power, x.setRequest(0, power), PoeSwitch.BAD_VALUE);
                }
                check.due("as it was", x.request(0), maxima[i]);
                // The second round is asked of a powered port, with no power left.
                x.setCapacity(0, maxima[i]);
                x.advance(1);
                check.due("its grant", x.grant(0), maxima[i]);
            }
        }
    }

    private static void noBudgetOnlyIfPowered(Check check) {
        PoeSwitch x = Lab.withSmallDevices(1);
        x.setCapacity(0, 0);
        x.setRequest(0, 1);
        check.due("not powered, nothing available", x.setRequest(0, 40), 1);
        check.due("changed", x.request(0), 40);
        check.due("not powered", x.grant(0), 0);
        PoeSwitch y = Lab.withSmallDevicesPowered(1);
        y.setRequest(0, 1);
        y.setCapacity(0, 39);
        check.due("powered", y.setRequest(0, 40), PoeSwitch.NO_BUDGET);
        y.setEnabled(0, false);
        check.due("not powered any more", y.setRequest(0, 40), 1);
    }

    private static void noBudgetOnlyIfGreater(Check check) {
        PoeSwitch x = Lab.withSmallDevicesPowered(2);
        x.setRequest(0, 30);
        x.setCapacity(0, 0);
        check.due("nothing is available", x.available(), -70);
        check.due("greater", x.setRequest(0, 31), PoeSwitch.NO_BUDGET);
        check.due("equal", x.setRequest(0, 30), 30);
        check.due("smaller", x.setRequest(0, 29), 30);
        check.due("its grant", x.grant(0), 29);
        check.due("available", x.available(), -69);
    }

    private static void noBudgetOnlyIfTooMuch(Check check) {
        PoeSwitch x = Lab.withSmallDevicesPowered(2);
        x.setRequest(0, 30);
        x.setCapacity(0, 75);
        check.due("available", x.available(), 5);
        check.due("one too much", x.setRequest(0, 36), PoeSwitch.NO_BUDGET);
        check.due("request as it was", x.request(0), 30);
        check.due("grant as it was", x.grant(0), 30);
        check.due("all there is", x.setRequest(0, 35), 30);
        check.due("nothing is left", x.available(), 0);
        check.due("with nothing left", x.setRequest(0, 36), PoeSwitch.NO_BUDGET);
    }

    // ---- promise 16

    private static void ownRequest(Check check) {
        PoeSwitch x = Lab.withSmallDevices(8);
        for (int port = 0; port < 8; port++) {
            x.setRequest(port, 1 + port);
        }
        for (int port = 0; port < 8; port++) {
            check.due("port " + port, x.request(port), 1 + port);
        }
    }

    private static void requestPoweredOrNot(Check check) {
        PoeSwitch x = Lab.busy();
        int[] due = {250, 40, 70, 154, 154};
        for (int port = 0; port < due.length; port++) {
            check.due("port " + port, x.request(port), due[port]);
        }
    }

    private static void requestNoDevice(Check check) {
        PoeSwitch x = Lab.withSmallDevices(1);
        check.due("never connected", x.request(7), PoeSwitch.NONE);
        x.disconnect(0);
        check.due("disconnected", x.request(0), PoeSwitch.NONE);
    }

    private static void requestNoClass(Check check) {
        PoeSwitch x = Lab.busy();
        check.due("no class", x.request(5), PoeSwitch.NONE);
        x.disconnect(0);
        Lab.plug(x, 0, Lab.NO_CLASS, 0);
        check.due("after a device with a class", x.request(0), PoeSwitch.NONE);
    }

    private static void requestNoPort(Check check) {
        for (int port : Lab.outside(0, 7)) {
            refused(check, x -> x.request(port), "port " + port, PoeSwitch.NO_SUCH_INDEX);
        }
    }

    // ---- promise 17

    private static void eligibleSet(Check check) {
        PoeSwitch x = new PoeSwitch();
        check.due("empty", x.eligiblePorts(), 0);
        int due = 0;
        for (int port = 7; port >= 0; port--) {
            Lab.plug(x, port, Lab.CLASS_4, 999);
            due |= 1 << port;
            check.due("one more", x.eligiblePorts(), due);
        }
        x.setCapacity(0, 0);
        x.advance(5);
        check.due("full, though there is no power", x.eligiblePorts(), 255);
        PoeSwitch y = Lab.busy();
        check.due("powered, cooling down and powered", y.eligiblePorts(), 7);
    }
}
