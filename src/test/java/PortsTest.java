/** Promises 10 to 17: ports, devices, requests and eligibility. */
public final class PortsTest {
    private static final Check CHECK = new Check("PortsTest");
    private static final int[] NO_PORTS = {-1, 8, Integer.MIN_VALUE, Integer.MAX_VALUE};

    public static void main(String[] args) {
        wrongPorts();
        enabling();
        priority();
        classes();
        connectErrors();
        disconnecting();
        load();
        request();
        requestWithinBudget();
        eligibility();
        CHECK.end();
    }

    private static void wrongPorts() {
        PoeSwitch x = new PoeSwitch();
        for (int port : NO_PORTS) {
            CHECK.due("10 no port", x.setEnabled(port, false), PoeSwitch.NO_SUCH_INDEX);
            CHECK.due("11 no port", x.setPriority(port, 0), PoeSwitch.NO_SUCH_INDEX);
            CHECK.due("11 both wrong", x.setPriority(port, 3), PoeSwitch.NO_SUCH_INDEX);
            CHECK.due("12 no port", x.connect(port, 200, 0, 0, 0), PoeSwitch.NO_SUCH_INDEX);
            CHECK.due("12 all wrong", x.connect(port, 0, -1, -1, -1), PoeSwitch.NO_SUCH_INDEX);
            CHECK.due("13 no port", x.disconnect(port), PoeSwitch.NO_SUCH_INDEX);
            CHECK.due("14 no port", x.setLoad(port, 0), PoeSwitch.NO_SUCH_INDEX);
            CHECK.due("14 both wrong", x.setLoad(port, -1), PoeSwitch.NO_SUCH_INDEX);
            CHECK.due("15 no port", x.setRequest(port, 1), PoeSwitch.NO_SUCH_INDEX);
            CHECK.due("16 no port", x.request(port), PoeSwitch.NO_SUCH_INDEX);
        }
    }

    private static void enabling() {
        PoeSwitch x = new PoeSwitch();
        x.connect(7, 200, 0, 10, 41);
        x.advance(2);
        CHECK.due("10 powered", x.poweredPorts(), 128);
        CHECK.due("10 counter", x.overload(7), 1);
        CHECK.due("10 enable what is enabled", x.setEnabled(7, true), 1);
        CHECK.due("10 stays powered", x.poweredPorts(), 128);
        CHECK.due("10 keeps its counter", x.overload(7), 1);
        CHECK.due("10 disable", x.setEnabled(7, false), 1);
        CHECK.due("10 loses power", x.grant(7), 0);
        CHECK.due("10 loses its counter", x.overload(7), 0);
        CHECK.due("10 no event", x.eventCount(), 1);
        CHECK.due("10 disable again", x.setEnabled(7, false), 0);
        CHECK.due("10 no power while disabled", x.advance(60), 0);
        CHECK.due("10 the device stays", x.request(7), 40);
        CHECK.due("10 the load stays", x.setLoad(7, 41), 41);
        CHECK.due("10 enable", x.setEnabled(7, true), 0);
        CHECK.due("10 powered, then cut", x.advance(4), 2);
        CHECK.due("10 in cooldown", x.cooldown(7), 5);
        CHECK.due("10 enabling leaves the cooldown", x.setEnabled(7, true), 1);
        CHECK.due("10 cooldown stays", x.cooldown(7), 5);
        CHECK.due("10 disabling ends the cooldown", x.setEnabled(7, false), 1);
        CHECK.due("10 cooldown is 0", x.cooldown(7), 0);
        CHECK.due("10 other ports stay enabled", x.setEnabled(6, true), 1);
    }

    private static void priority() {
        PoeSwitch x = new PoeSwitch();
        int[] wrong = {-1, 3, Integer.MIN_VALUE, Integer.MAX_VALUE};
        for (int priority : wrong) {
            CHECK.due("11 wrong priority", x.setPriority(0, priority), PoeSwitch.BAD_VALUE);
        }
        CHECK.due("11 to 0", x.setPriority(0, 0), 2);
        CHECK.due("11 to 1", x.setPriority(0, 1), 0);
        CHECK.due("11 to 2", x.setPriority(0, 2), 1);
        CHECK.due("11 kept", x.setPriority(0, 2), 2);
        x.setCapacity(0, 154);
        x.connect(0, 200, 0, 0, 10);
        x.connect(1, 200, 0, 0, 10);
        x.advance(1);
        x.setPriority(1, 0);
        CHECK.due("11 stays powered at once", x.poweredPorts(), 1);
        x.advance(10);
        CHECK.due("11 stays powered", x.poweredPorts(), 1);
    }

    private static void classes() {
        for (int current = 0; current <= 60; current++) {
            int due = PoeSwitch.NONE;
            int maximum = PoeSwitch.NONE;
            if (current <= 4) {
                due = 0;
                maximum = 154;
            } else if (current >= 9 && current <= 12) {
                due = 1;
                maximum = 40;
            } else if (current >= 17 && current <= 20) {
                due = 2;
                maximum = 70;
            } else if (current >= 26 && current <= 30) {
                due = 3;
                maximum = 154;
            } else if (current >= 36 && current <= 44) {
                due = 4;
                maximum = 300;
            }
            PoeSwitch x = new PoeSwitch();
            CHECK.due("12 class of " + current, x.connect(2, 200, 0, current, 0), due);
            CHECK.due("16 request of " + current, x.request(2), maximum);
            CHECK.due("12 not detected " + current, x.connect(5, 1, 99, current, 0), due);
            CHECK.due("16 not detected " + current, x.request(5), maximum);
            CHECK.due("17 eligible " + current, x.eligiblePorts(), due == PoeSwitch.NONE ? 0 : 4);
        }
    }

    private static void connectErrors() {
        PoeSwitch x = new PoeSwitch();
        int[][] wrong = {
            {0, 0, 0, 0}, {1000, 0, 0, 0}, {-5, 0, 0, 0}, {200, -1, 0, 0}, {200, 100, 0, 0},
            {200, 0, -1, 0}, {200, 0, 61, 0}, {200, 0, 0, -1}, {200, 0, 0, 1000},
            {Integer.MIN_VALUE, 0, 0, 0}, {200, Integer.MIN_VALUE, 0, 0},
            {200, 0, Integer.MAX_VALUE, 0}, {200, 0, 0, Integer.MAX_VALUE}};
        for (int[] device : wrong) {
            CHECK.due("12 bad value", x.connect(4, device[0], device[1], device[2], device[3]),
                    PoeSwitch.BAD_VALUE);
            CHECK.due("12 nothing connected", x.disconnect(4), PoeSwitch.BAD_STATE);
        }
        CHECK.due("12 lowest values", x.connect(4, 1, 0, 0, 0), 0);
        CHECK.due("12 highest values", x.connect(5, 999, 99, 60, 999), PoeSwitch.NONE);
        for (int[] device : wrong) {
            CHECK.due("12 bad value first", x.connect(4, device[0], device[1], device[2], device[3]),
                    PoeSwitch.BAD_VALUE);
        }
        CHECK.due("12 connected", x.connect(4, 200, 0, 10, 7), PoeSwitch.BAD_STATE);
        CHECK.due("12 connected, no class", x.connect(5, 200, 0, 10, 7), PoeSwitch.BAD_STATE);
        CHECK.due("12 device 4 is the old one", x.request(4), 154);
        CHECK.due("12 device 5 is the old one", x.request(5), PoeSwitch.NONE);
        CHECK.due("12 load 4", x.setLoad(4, 0), 0);
        CHECK.due("12 load 5", x.setLoad(5, 0), 999);
        CHECK.due("12 disabled port", x.setEnabled(6, false), 1);
        CHECK.due("12 connect to it", x.connect(6, 200, 0, 40, 0), 4);
        CHECK.due("12 stays disabled", x.setEnabled(6, false), 0);
    }

    private static void disconnecting() {
        PoeSwitch x = new PoeSwitch();
        CHECK.due("13 nothing there", x.disconnect(0), PoeSwitch.BAD_STATE);
        x.connect(0, 200, 0, 10, 41);
        CHECK.due("13 not powered", x.disconnect(0), 0);
        x.connect(0, 200, 0, 10, 41);
        x.setRequest(0, 30);
        x.setPriority(0, 1);
        x.advance(2);
        CHECK.due("13 powered", x.disconnect(0), 1);
        CHECK.due("13 no grant", x.grant(0), 0);
        CHECK.due("13 no counter", x.overload(0), 0);
        CHECK.due("13 no event", x.eventCount(), 1);
        CHECK.due("13 no device", x.request(0), PoeSwitch.NONE);
        CHECK.due("13 not eligible", x.eligiblePorts(), 0);
        CHECK.due("13 power is back", x.available(), 1500);
        CHECK.due("13 twice", x.disconnect(0), PoeSwitch.BAD_STATE);
        CHECK.due("13 load", x.setLoad(0, 1), PoeSwitch.BAD_STATE);
        CHECK.due("13 priority stays", x.setPriority(0, 2), 1);
        CHECK.due("13 a new device", x.connect(0, 200, 0, 10, 41), 1);
        CHECK.due("13 with a request of its own", x.request(0), 40);
        CHECK.due("13 powered and cut", x.advance(4), 2);
        CHECK.due("13 cut", x.cooldown(0), 5);
        CHECK.due("13 in cooldown", x.disconnect(0), 0);
        CHECK.due("13 ends the cooldown", x.cooldown(0), 0);
    }

    private static void load() {
        PoeSwitch x = new PoeSwitch();
        CHECK.due("14 no device", x.setLoad(3, 5), PoeSwitch.BAD_STATE);
        CHECK.due("14 bad value first", x.setLoad(3, 1000), PoeSwitch.BAD_VALUE);
        CHECK.due("14 bad value first", x.setLoad(3, -1), PoeSwitch.BAD_VALUE);
        x.connect(3, 1, 99, 60, 12);
        int[] wrong = {-1, 1000, Integer.MIN_VALUE, Integer.MAX_VALUE};
        for (int load : wrong) {
            CHECK.due("14 wrong load", x.setLoad(3, load), PoeSwitch.BAD_VALUE);
        }
        CHECK.due("14 highest", x.setLoad(3, 999), 12);
        CHECK.due("14 lowest", x.setLoad(3, 0), 999);
        CHECK.due("14 kept", x.setLoad(3, 1), 0);
    }

    private static void request() {
        PoeSwitch x = new PoeSwitch();
        CHECK.due("15 no device", x.setRequest(1, 5), PoeSwitch.BAD_STATE);
        CHECK.due("15 bad state first", x.setRequest(1, 0), PoeSwitch.BAD_STATE);
        x.connect(1, 200, 0, 5, 0);
        CHECK.due("15 no class", x.setRequest(1, 5), PoeSwitch.BAD_STATE);
        CHECK.due("15 no class, bad value", x.setRequest(1, 301), PoeSwitch.BAD_STATE);
        int[] currents = {0, 9, 17, 26, 36};
        int[] maxima = {154, 40, 70, 154, 300};
        for (int i = 0; i < currents.length; i++) {
            PoeSwitch y = new PoeSwitch();
            y.connect(1, 300, 0, currents[i], 0);
            CHECK.due("15 above", y.setRequest(1, maxima[i] + 1), PoeSwitch.BAD_VALUE);
            CHECK.due("15 zero", y.setRequest(1, 0), PoeSwitch.BAD_VALUE);
            CHECK.due("15 below", y.setRequest(1, Integer.MIN_VALUE), PoeSwitch.BAD_VALUE);
            CHECK.due("15 far above", y.setRequest(1, Integer.MAX_VALUE), PoeSwitch.BAD_VALUE);
            CHECK.due("15 lowest", y.setRequest(1, 1), maxima[i]);
            CHECK.due("16 lowest", y.request(1), 1);
            CHECK.due("15 highest", y.setRequest(1, maxima[i]), 1);
            CHECK.due("16 highest", y.request(1), maxima[i]);
        }
    }

    private static void requestWithinBudget() {
        PoeSwitch x = new PoeSwitch();
        x.setCapacity(0, 200);
        x.connect(0, 200, 0, 36, 0);
        CHECK.due("15 no budget needed unpowered", x.setRequest(0, 250), 300);
        CHECK.due("15 still not powered", x.grant(0), 0);
        x.setRequest(0, 100);
        x.advance(1);
        CHECK.due("15 granted", x.grant(0), 100);
        CHECK.due("15 too much", x.setRequest(0, 201), PoeSwitch.NO_BUDGET);
        CHECK.due("15 request as before", x.request(0), 100);
        CHECK.due("15 grant as before", x.grant(0), 100);
        CHECK.due("15 bad value first", x.setRequest(0, 301), PoeSwitch.BAD_VALUE);
        CHECK.due("15 all that is there", x.setRequest(0, 200), 100);
        CHECK.due("15 grant at once", x.grant(0), 200);
        CHECK.due("9 nothing left", x.available(), 0);
        x.setCapacity(0, 50);
        CHECK.due("15 same while negative", x.setRequest(0, 200), 200);
        CHECK.due("15 less while negative", x.setRequest(0, 150), 200);
        CHECK.due("15 grant follows", x.grant(0), 150);
        CHECK.due("9 still negative", x.available(), -100);
        CHECK.due("15 more while negative", x.setRequest(0, 151), PoeSwitch.NO_BUDGET);
        CHECK.due("15 below the budget", x.setRequest(0, 50), 150);
        CHECK.due("15 so it is not shed", x.advance(1), 0);
        CHECK.due("15 powered", x.poweredPorts(), 1);
    }

    private static void eligibility() {
        int[] resistances = {1, 189, 190, 265, 266, 999};
        int[] capacitances = {0, 15, 16, 99};
        for (int resistance : resistances) {
            for (int capacitance : capacitances) {
                PoeSwitch x = new PoeSwitch();
                x.connect(6, resistance, capacitance, 44, 0);
                boolean detected = (resistance == 190 || resistance == 265) && capacitance <= 15;
                CHECK.due("17 " + resistance + ", " + capacitance, x.eligiblePorts(), detected ? 64 : 0);
                CHECK.due("17 powered only if eligible", x.advance(1), detected ? 1 : 0);
            }
        }
        PoeSwitch x = new PoeSwitch();
        for (int port = 0; port < 8; port++) {
            x.connect(port, 200, 0, 0, 999);
        }
        CHECK.due("17 all", x.eligiblePorts(), 255);
        x.setEnabled(3, false);
        CHECK.due("17 without the disabled one", x.eligiblePorts(), 247);
        x.disconnect(0);
        CHECK.due("17 without the disconnected one", x.eligiblePorts(), 246);
        x.setEnabled(3, true);
        CHECK.due("17 enabled again", x.eligiblePorts(), 254);
        x.setCapacity(0, 0);
        x.advance(20);
        CHECK.due("17 whether there is power or not", x.eligiblePorts(), 254);
    }
}
