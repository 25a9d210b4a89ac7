/** Promises 18 to 27: power state, clock and events. */
final class PowerSentences {
    private static final int NO = PoeSwitch.NO_SUCH_INDEX;

    private PowerSentences() {
    }

    static void enter(Book book) {
        book.section("Promise 18");
        book.plain("---- power state");
        book.test("Returns the set of powered ports.", PowerSentences::poweredSet);

        book.section("Promise 19");
        book.plain("Returns the grant of a port.");
        book.plain("port: port number");
        book.test("Returns the grant", PowerSentences::ownGrant);
        book.test("0 if the port is not powered", PowerSentences::noGrant);
        book.test("NO_SUCH_INDEX if the port does not exist", PowerSentences::grantNoPort);

        book.section("Promise 20");
        book.plain("Returns the overload counter of a port.");
        book.plain("port: port number");
        book.test("Returns the counter", PowerSentences::ownCounter);
        book.test("NO_SUCH_INDEX if the port does not exist", PowerSentences::overloadNoPort);

        book.section("Promise 21");
        book.plain("Returns the remaining cooldown of a port.");
        book.plain("port: port number");
        book.test("Returns the cooldown in seconds", PowerSentences::ownCooldown);
        book.test("NO_SUCH_INDEX if the port does not exist", PowerSentences::cooldownNoPort);

        book.section("Promise 22");
        book.plain("---- clock and events");
        book.test("Simulates one or more seconds.", PowerSentences::manySecondsAtOnce);
        book.test("seconds: number of seconds, 1 to 60", PowerSentences::advanceEdges);
        book.test("Returns the number of events that occurred", PowerSentences::countsEvents);
        book.test("including those that the log no longer keeps", PowerSentences::countsLostEvents);
        book.test("BAD_VALUE if the number is out of range", PowerSentences::advanceOutOfRange);

        book.section("Promise 23");
        book.test("Returns the clock.", PowerSentences::theClock);

        book.section("Promise 24");
        book.test("Returns the number of events in the log, 0 to 16.", PowerSentences::countOfEvents);

        enterEvents(book);
    }

    private static void enterEvents(Book book) {
        book.section("Promise 25");
        book.plain("Returns the time of an event.");
        book.test("index: index of the event, 0 is the oldest event in the log", PowerSentences::oldestTime);
        book.test("Returns the time", PowerSentences::times);
        book.test("NO_SUCH_INDEX if there is no such event", PowerSentences::noSuchTime);

        book.section("Promise 26");
        book.plain("Returns the port of an event.");
        book.test("index: index of the event, 0 is the oldest event in the log", PowerSentences::oldestPort);
        book.test("Returns the port number", PowerSentences::portNumbers);
        book.test("NO_SUCH_INDEX if there is no such event", PowerSentences::noSuchPort);

        book.section("Promise 27");
        book.plain("Returns the kind of an event.");
        book.test("index: index of the event, 0 is the oldest event in the log", PowerSentences::oldestKind);
        book.test("Returns POWERED, SHED or CUT", PowerSentences::kinds);
        book.test("NO_SUCH_INDEX if there is no such event", PowerSentences::noSuchKind);
    }

    // ---- promises 18 to 21

    private static void poweredSet(Check check) {
        PoeSwitch x = Lab.withSmallDevices(8);
        x.setRestartGap(1);
        check.due("none", x.poweredPorts(), 0);
        for (int count = 1; count <= 8; count++) {
            x.advance(1);
            check.due(count + " ports", x.poweredPorts(), (1 << count) - 1);
        }
        x.setWorking(0, false);
        x.advance(1);
        check.due("none again", x.poweredPorts(), 0);
        check.due("powered ports of a busy switch", Lab.busy().poweredPorts(), 5);
    }

    private static void ownGrant(Check check) {
        PoeSwitch x = Lab.withSmallDevices(8);
        x.setRequest(0, 1);
        for (int port = 1; port < 8; port++) {
            x.setRequest(port, 33 + port);
        }
        x.advance(20);
        check.due("smallest", x.grant(0), 1);
        for (int port = 1; port < 8; port++) {
            check.due("port " + port, x.grant(port), 33 + port);
        }
        PoeSwitch y = new PoeSwitch();
        Lab.plug(y, 7, Lab.CLASS_4, 0);
        y.advance(1);
        check.due("largest", y.grant(7), 300);
    }

    private static void noGrant(Check check) {
        PoeSwitch x = Lab.busy();
        int[] unpowered = {1, 3, 4, 5, 6, 7};
        for (int port : unpowered) {
            check.due("port " + port, x.grant(port), 0);
        }
        x.setWorking(0, false);
        x.advance(1);
        check.due("shed", x.grant(0), 0);
    }

    private static void noPort(Check check, String name, int got, int port) {
        check.due(name + "(" + port + ")", got, NO);
    }

    private static void grantNoPort(Check check) {
        PoeSwitch x = Lab.withSmallDevicesPowered(8);
        for (int port : Lab.outside(0, 7)) {
            noPort(check, "grant", x.grant(port), port);
        }
    }

    private static void ownCounter(Check check) {
        PoeSwitch x = Lab.withSmallDevicesPowered(8);
        x.setOverloadLimit(30);
        for (int port = 0; port < 8; port++) {
            x.setLoad(port, 41);
            x.advance(1);
        }
        for (int port = 0; port < 8; port++) {
            check.due("port " + port, x.overload(port), 8 - port);
        }
        x.advance(21);
        check.due("largest", x.overload(0), 29);
        check.due("of a port without a device", new PoeSwitch().overload(7), 0);
    }

    private static void overloadNoPort(Check check) {
        PoeSwitch x = Lab.withSmallDevicesPowered(8);
        for (int port : Lab.outside(0, 7)) {
            noPort(check, "overload", x.overload(port), port);
        }
    }

    private static void ownCooldown(Check check) {
        PoeSwitch x = Lab.withSmallDevicesPowered(8);
        x.setOverloadLimit(1);
        x.setCooldownTime(60);
        for (int port = 0; port < 8; port++) {
            x.setLoad(port, 41);
            x.advance(1);
        }
        for (int port = 0; port < 8; port++) {
            check.due("port " + port, x.cooldown(port), 53 + port);
        }
        x.setCapacity(0, 0);
        x.advance(52);
        check.due("last second", x.cooldown(0), 1);
        x.advance(1);
        check.due("over", x.cooldown(0), 0);
        x.advance(1);
        check.due("0 is the smallest", x.cooldown(0), 0);
    }

    private static void cooldownNoPort(Check check) {
        PoeSwitch x = Lab.withSmallDevicesPowered(8);
        for (int port : Lab.outside(0, 7)) {
            noPort(check, "cooldown", x.cooldown(port), port);
        }
    }

    // ---- promises 22 to 24

    private static void manySecondsAtOnce(Check check) {
        int[] counts = {1, 2, 59, 60};
        for (int seconds : counts) {
            sameInSteps(check, Lab.busy(), Lab.busy(), seconds);
            // These become stable on the way, and the seconds after that count too.
            sameInSteps(check, Lab.withSmallDevices(3), Lab.withSmallDevices(3), seconds);
        }
    }

    private static void sameInSteps(Check check, PoeSwitch once, PoeSwitch steps, int seconds) {
        int events = once.advance(seconds);
        int sum = 0;
        for (int second = 0; second < seconds; second++) {
            sum += steps.advance(1);
        }
        check.due("events in " + seconds, events, sum);
        check.due("same after " + seconds, Lab.whole(once).equals(Lab.whole(steps)) ? 1 : 0, 1);
    }

    private static void advanceEdges(Check check) {
        PoeSwitch x = new PoeSwitch();
        check.due("1", x.advance(1), 0);
        check.due("clock", x.clock(), 1);
        check.due("60", x.advance(60), 0);
        check.due("clock", x.clock(), 61);
        check.due("59", x.advance(59), 0);
        check.due("clock", x.clock(), 120);
    }

    private static void countsEvents(Check check) {
        check.due("none", new PoeSwitch().advance(60), 0);
        PoeSwitch x = Lab.withSmallDevices(1);
        check.due("powered", x.advance(5), 1);
        x.setLoad(0, 41);
        check.due("cut", x.advance(5), 1);
        x.setLoad(0, 40);
        x.advance(5);
        x.setCapacity(0, 0);
        check.due("shed", x.advance(5), 1);
        check.due("only the new ones", x.advance(5), 0);
        PoeSwitch y = Lab.withSmallDevicesPowered(8);
        y.setOverloadLimit(1);
        y.setLoad(0, 41);
        y.setCapacity(0, 300);
        check.due("all kinds in one second", y.advance(1), 3);
        Lab.event(check, y, 8, 20, 7, PoeSwitch.SHED);
        Lab.event(check, y, 9, 20, 0, PoeSwitch.CUT);
        Lab.event(check, y, 10, 20, 7, PoeSwitch.POWERED);
    }

    private static void countsLostEvents(Check check) {
        int[] counts = {15, 16, 17, 60};
        for (int events : counts) {
            PoeSwitch x = Lab.withAnEventEachSecond();
            check.due(events + " events", x.advance(events), events);
            check.due("kept of " + events, x.eventCount(), Math.min(events, 16));
            check.due("with a full log", x.advance(60), 60);
        }
    }

    private static void advanceOutOfRange(Check check) {
        PoeSwitch x = Lab.withSmallDevices(1);
        for (int seconds : Lab.outside(1, 60)) {
            check.due("seconds " + seconds, x.advance(seconds), PoeSwitch.BAD_VALUE);
            check.due("clock", x.clock(), 0);
            check.due("powered", x.poweredPorts(), 0);
        }
    }

    private static void theClock(Check check) {
        PoeSwitch x = new PoeSwitch();
        check.due("new", x.clock(), 0);
        int due = 0;
        for (int seconds = 1; seconds <= 60; seconds++) {
            x.advance(seconds);
            due += seconds;
            check.due("after " + seconds, x.clock(), due);
        }
        x.advance(61);
        check.due("a refused advance", x.clock(), due);
    }

    private static void countOfEvents(Check check) {
        int[] seconds = {1, 15, 16, 17, 32, 60};
        check.due("none", Lab.withAnEventEachSecond().eventCount(), 0);
        for (int count : seconds) {
            PoeSwitch x = Lab.withAnEventEachSecond();
            x.advance(count);
            check.due("after " + count, x.eventCount(), Math.min(count, 16));
            x.advance(1);
            check.due("after one more", x.eventCount(), Math.min(count + 1, 16));
        }
    }

    // ---- promises 25 to 27

    /** Ports 0 to 7 are powered in the seconds 0 to 7, then all are shed in second 20, then 0 is powered. */
    private static PoeSwitch seventeenEvents() {
        PoeSwitch x = Lab.withSmallDevices(8);
        x.setRestartGap(1);
        x.advance(20);
        x.setCapacity(0, 0);
        x.advance(1);
        x.setCapacity(0, 40);
        x.advance(1);
        return x;
    }

    private static void oldestTime(Check check) {
        PoeSwitch x = Lab.withSmallDevices(8);
        x.setRestartGap(1);
        x.advance(20);
        check.due("of 8", x.eventTime(0), 0);
        x.setCapacity(0, 0);
        x.advance(1);
        check.due("of 16", x.eventTime(0), 0);
        check.due("of 17", seventeenEvents().eventTime(0), 1);
    }

    private static void times(Check check) {
        PoeSwitch x = seventeenEvents();
        int[] due = {1, 2, 3, 4, 5, 6, 7, 20, 20, 20, 20, 20, 20, 20, 20, 21};
        for (int index = 0; index < 16; index++) {
            check.due("event " + index, x.eventTime(index), due[index]);
        }
    }

    private static void noSuchTime(Check check) {
        noSuchEvent(check, 0);
    }

    private static void oldestPort(Check check) {
        PoeSwitch x = Lab.withSmallDevices(8);
        x.setRestartGap(1);
        x.setPriority(7, 0);
        x.advance(20);
        check.due("of 8", x.eventPort(0), 7);
        x.setCapacity(0, 0);
        x.advance(1);
        check.due("of 16", x.eventPort(0), 7);
        check.due("of 17", seventeenEvents().eventPort(0), 1);
    }

    private static void portNumbers(Check check) {
        PoeSwitch x = seventeenEvents();
        int[] due = {1, 2, 3, 4, 5, 6, 7, 7, 6, 5, 4, 3, 2, 1, 0, 0};
        for (int index = 0; index < 16; index++) {
            check.due("event " + index, x.eventPort(index), due[index]);
        }
    }

    private static void noSuchPort(Check check) {
        noSuchEvent(check, 1);
    }

    private static void oldestKind(Check check) {
        PoeSwitch x = Lab.withAnEventEachSecond();
        x.advance(16);
        check.due("of 16", x.eventKind(0), PoeSwitch.POWERED);
        x.advance(1);
        check.due("of 17", x.eventKind(0), PoeSwitch.CUT);
        x.advance(1);
        check.due("of 18", x.eventKind(0), PoeSwitch.POWERED);
    }

    private static void kinds(Check check) {
        PoeSwitch x = seventeenEvents();
        for (int index = 0; index < 16; index++) {
            check.due("event " + index, x.eventKind(index),
                    index < 7 || index == 15 ? PoeSwitch.POWERED : PoeSwitch.SHED);
        }
        x.setOverloadLimit(1);
        x.setLoad(0, 41);
        x.advance(1);
        // The cut makes room for port 1 in the same second.
        check.due("the latest but one", x.eventKind(14), PoeSwitch.CUT);
        check.due("the latest", x.eventKind(15), PoeSwitch.POWERED);
    }

    private static void noSuchKind(Check check) {
        noSuchEvent(check, 2);
    }

    private static int part(PoeSwitch x, int which, int index) {
        return which == 0 ? x.eventTime(index) : which == 1 ? x.eventPort(index) : x.eventKind(index);
    }

    private static void noSuchEvent(Check check, int which) {
        int[] counts = {0, 1, 15, 16, 17, 32, 33};
        for (int events : counts) {
            PoeSwitch x = Lab.withAnEventEachSecond();
            if (events > 0) {
                x.advance(events);
            }
            int kept = Math.min(events, 16);
            if (kept > 0) {
                check.due("the last of " + events, part(x, which, kept - 1) == NO ? 1 : 0, 0);
                check.due("the first of " + events, part(x, which, 0) == NO ? 1 : 0, 0);
            }
            for (int index : Lab.outside(0, kept - 1)) {
                check.due("index " + index + " of " + kept, part(x, which, index), NO);
            }
        }
    }
}
