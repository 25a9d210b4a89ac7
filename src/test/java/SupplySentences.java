/** Promises 1 to 9: a new object, supplies and settings. */
final class SupplySentences {
    private SupplySentences() {
    }

    static void enter(Book book) {
        book.section("Promise 1");
        book.test("Creates a switch without devices.", SupplySentences::noDevices);
        book.test("The clock is 0", SupplySentences::clockIs0);
        book.test("the event log is empty", SupplySentences::logIsEmpty);
        book.test("no snapshot is saved", SupplySentences::noSnapshot);
        book.test("The reserve is 0, the restart gap 2, the overload limit 3 and the cooldown time 5.",
                SupplySentences::firstSettings);

        book.section("Promise 2");
        book.plain("---- supplies and settings");
        book.plain("Sets the capacity of a supply.");
        book.plain("supply: supply number");
        book.test("capacity: new capacity, 0 to 3000", SupplySentences::capacityEdges);
        book.test("Returns the previous capacity", SupplySentences::previousCapacity);
        book.test("NO_SUCH_INDEX if the supply does not exist", SupplySentences::capacityNoSupply);
        book.test("BAD_VALUE if the capacity is out of range", SupplySentences::capacityOutOfRange);

        book.section("Promise 3");
        book.test("Marks a supply as working or failed.", SupplySentences::marksSupply);
        book.test("Ports are shed only when the next second is simulated.", SupplySentences::shedNextSecond);
        book.plain("supply: supply number");
        book.plain("working: true if the supply works");
        book.test("Returns 1 if the supply worked before, 0 if it had failed", SupplySentences::workedBefore);
        book.test("NO_SUCH_INDEX if the supply does not exist", SupplySentences::workingNoSupply);

        book.section("Promise 4");
        book.test("Sets the reserve, the power that is never granted.", SupplySentences::neverGranted);
        book.test("reserve: new reserve, 0 to 3000", SupplySentences::reserveEdges);
        book.test("Returns the previous reserve", SupplySentences::previousReserve);
        book.test("BAD_VALUE if it is out of range", SupplySentences::reserveOutOfRange);

        book.section("Promise 5");
        book.test("Sets the restart gap, the minimum number of seconds between two power-ups.",
                SupplySentences::gapBetweenPowerUps);
        book.test("The current value of the restart timer does not change.", SupplySentences::timerStays);
        book.test("seconds: new restart gap, 1 to 30", SupplySentences::gapEdges);
        book.test("Returns the previous restart gap", SupplySentences::previousGap);
        book.test("BAD_VALUE if it is out of range", SupplySentences::gapOutOfRange);

        book.section("Promise 6");
        book.test("Sets the overload limit, the number of consecutive overloaded seconds after which a port"
                + " is cut off.", SupplySentences::consecutiveSeconds);
        book.test("seconds: new overload limit, 1 to 30", SupplySentences::limitEdges);
        book.test("Returns the previous overload limit", SupplySentences::previousLimit);
        book.test("BAD_VALUE if it is out of range", SupplySentences::limitOutOfRange);

        book.section("Promise 7");
        book.test("Sets the cooldown time.", SupplySentences::timeAtWork);
        book.test("Ports that are already in cooldown are not affected.",
                SupplySentences::runningCooldownStays);
        book.test("seconds: new cooldown time, 1 to 60", SupplySentences::timeEdges);
        book.test("Returns the previous cooldown time", SupplySentences::previousTime);
        book.test("BAD_VALUE if it is out of range", SupplySentences::timeOutOfRange);

        book.section("Promise 8");
        book.test("Returns the budget, 0 or more.", SupplySentences::budgetZeroOrMore);

        book.section("Promise 9");
        book.test("Returns the available power, which can be negative.", SupplySentences::availableNegative);
    }

    // ---- promise 1

    private static void noDevices(Check check) {
        PoeSwitch x = new PoeSwitch();
        check.due("nothing happens", x.advance(60), 0);
        for (int port = 0; port < 8; port++) {
            check.due("request of " + port, x.request(port), PoeSwitch.NONE);
            check.due("disconnect " + port, x.disconnect(port), PoeSwitch.BAD_STATE);
            check.due("connect " + port, x.connect(port, 200, 0, 0, 0), 0);
        }
    }

    private static void clockIs0(Check check) {
        check.due("clock", new PoeSwitch().clock(), 0);
    }

    private static void logIsEmpty(Check check) {
        PoeSwitch x = new PoeSwitch();
        check.due("count", x.eventCount(), 0);
        int none = PoeSwitch.NO_SUCH_INDEX;
        Lab.event(check, x, 0, none, none, none);
    }

    private static void noSnapshot(Check check) {
        Lab.busy().save(1);
        PoeSwitch x = new PoeSwitch();
        check.due("slot 0", x.restore(0), PoeSwitch.BAD_STATE);
        check.due("slot 1", x.restore(1), PoeSwitch.BAD_STATE);
    }

    private static void firstSettings(Check check) {
        PoeSwitch x = new PoeSwitch();
        check.due("reserve", x.setReserve(1), 0);
        check.due("restart gap", x.setRestartGap(1), 2);
        check.due("overload limit", x.setOverloadLimit(1), 3);
        check.due("cooldown time", x.setCooldownTime(1), 5);
        PoeSwitch y = Lab.withSmallDevices(2);
        y.setLoad(0, 41);
        y.advance(4);
        check.due("gap 2 and limit 3 at work", y.eventCount(), 3);
        Lab.event(check, y, 1, 2, 1, PoeSwitch.POWERED);
        Lab.event(check, y, 2, 3, 0, PoeSwitch.CUT);
        check.due("cooldown time 5 at work", y.cooldown(0), 5);
    }

    // ---- promise 2

    private static void capacityEdges(Check check) {
        PoeSwitch x = new PoeSwitch();
        for (int supply = 0; supply < 3; supply++) {
            int first = supply == 0 ? 1500 : 0;
            check.due("smallest", x.setCapacity(supply, 0), first);
            check.due("next to it", x.setCapacity(supply, 1), 0);
            check.due("next to the largest", x.setCapacity(supply, 2999), 1);
            check.due("largest", x.setCapacity(supply, 3000), 2999);
            check.due("kept", x.setCapacity(supply, 3000), 3000);
        }
        check.due("three times the largest", x.budget(), 9000);
    }

    private static void previousCapacity(Check check) {
        PoeSwitch x = new PoeSwitch();
        x.setCapacity(0, 10);
        x.setCapacity(1, 11);
        x.setCapacity(2, 12);
        x.setWorking(1, false);
        for (int supply = 0; supply < 3; supply++) {
            check.due("own value, working or not", x.setCapacity(supply, 20 + supply), 10 + supply);
            check.due("then the new one", x.setCapacity(supply, 20 + supply), 20 + supply);
            x.setCapacity(supply, 3001);
            check.due("a refused value is none", x.setCapacity(supply, 0), 20 + supply);
        }
    }

    private static void capacityNoSupply(Check check) {
        PoeSwitch x = new PoeSwitch();
        for (int supply : Lab.outside(0, 2)) {
            check.due("supply " + supply, x.setCapacity(supply, 9), PoeSwitch.NO_SUCH_INDEX);
            check.due("bad value too, supply " + supply, x.setCapacity(supply, -1),
                    PoeSwitch.NO_SUCH_INDEX);
        }
        check.due("budget", x.budget(), 1500);
    }

    private static void capacityOutOfRange(Check check) {
        PoeSwitch x = new PoeSwitch();
        for (int capacity : Lab.outside(0, 3000)) {
            for (int supply = 0; supply < 3; supply++) {
                check.due("capacity " + capacity, x.setCapacity(supply, capacity), PoeSwitch.BAD_VALUE);
            }
        }
        check.due("budget", x.budget(), 1500);
    }

    // ---- promise 3

    private static void marksSupply(Check check) {
        PoeSwitch x = new PoeSwitch();
        x.setWorking(0, false);
        check.due("failed", x.budget(), 0);
        x.setCapacity(0, 1200);
        check.due("failed with another capacity", x.budget(), 0);
        x.setWorking(0, true);
        check.due("working", x.budget(), 1200);
        x.setWorking(1, false);
        x.setWorking(2, false);
        check.due("the others have nothing to lose", x.budget(), 1200);
    }

    private static void shedNextSecond(Check check) {
        PoeSwitch x = Lab.withSmallDevicesPowered(8);
        x.setWorking(0, false);
        check.due("all are powered still", x.poweredPorts(), 255);
        check.due("no event", x.eventCount(), 8);
        check.due("available", x.available(), -320);
        check.due("now they are shed", x.advance(1), 8);
        check.due("none is powered", x.poweredPorts(), 0);
        PoeSwitch y = Lab.withSmallDevicesPowered(8);
        y.setWorking(0, false);
        y.setWorking(0, true);
        check.due("working again in time", y.advance(1), 0);
        check.due("none is shed", y.poweredPorts(), 255);
    }

    private static void workedBefore(Check check) {
        PoeSwitch x = new PoeSwitch();
        for (int supply = 0; supply < 3; supply++) {
            check.due("worked", x.setWorking(supply, true), 1);
            check.due("worked, fails", x.setWorking(supply, false), 1);
            check.due("had failed", x.setWorking(supply, false), 0);
            check.due("had failed, works", x.setWorking(supply, true), 0);
            check.due("worked again", x.setWorking(supply, true), 1);
        }
    }

    private static void workingNoSupply(Check check) {
        PoeSwitch x = new PoeSwitch();
        for (int supply : Lab.outside(0, 2)) {
            check.due("fails " + supply, x.setWorking(supply, false), PoeSwitch.NO_SUCH_INDEX);
            check.due("works " + supply, x.setWorking(supply, true), PoeSwitch.NO_SUCH_INDEX);
        }
        check.due("budget", x.budget(), 1500);
    }

    // ---- promise 4

    private static void neverGranted(Check check) {
        PoeSwitch x = Lab.withSmallDevices(1);
        x.setCapacity(0, 100);
        x.setReserve(61);
        check.due("39 are left: not granted", x.advance(30), 0);
        check.due("39 are left: does not fit", x.fittingPorts(), 0);
        x.setReserve(60);
        check.due("40 are left: granted", x.advance(3), 1);
        check.due("one is given back", x.setRequest(0, 39), 40);
        x.setReserve(61);
        check.due("and kept in reserve", x.setRequest(0, 40), PoeSwitch.NO_BUDGET);
        x.setReserve(62);
        check.due("a larger reserve takes it back", x.advance(1), 1);
    }

    private static void reserveEdges(Check check) {
        PoeSwitch x = new PoeSwitch();
        x.setCapacity(1, 3000);
        x.setReserve(3000);
        check.due("largest", x.budget(), 1500);
        x.setReserve(2999);
        check.due("next to it", x.budget(), 1501);
        x.setReserve(1);
        check.due("next to the smallest", x.budget(), 4499);
        x.setReserve(0);
        check.due("smallest", x.budget(), 4500);
    }

    private static void previousReserve(Check check) {
        PoeSwitch x = new PoeSwitch();
        check.due("first", x.setReserve(3000), 0);
        check.due("second, more than there is", x.setReserve(5), 3000);
        x.setReserve(3001);
        check.due("a refused value is none", x.setReserve(0), 5);
        check.due("same again", x.setReserve(0), 0);
    }

    private static void reserveOutOfRange(Check check) {
        PoeSwitch x = new PoeSwitch();
        for (int reserve : Lab.outside(0, 3000)) {
            check.due("reserve " + reserve, x.setReserve(reserve), PoeSwitch.BAD_VALUE);
        }
        check.due("budget", x.budget(), 1500);
    }

    // ---- promise 5

    private static void gapBetweenPowerUps(Check check) {
        int[] gaps = {1, 2, 30};
        for (int gap : gaps) {
            PoeSwitch x = Lab.withSmallDevices(2);
            x.setRestartGap(gap);
            check.due("one until gap " + gap, x.advance(gap), 1);
            check.due("the next then, gap " + gap, x.advance(1), 1);
        }
    }

    private static void timerStays(Check check) {
        PoeSwitch x = Lab.withSmallDevices(3);
        x.setRestartGap(30);
        x.advance(1);
        x.setRestartGap(1);
        check.due("a shorter gap does not shorten it", x.advance(29), 0);
        check.due("30 seconds after the first", x.advance(1), 1);
        check.due("the shorter gap from then on", x.advance(1), 1);
        PoeSwitch y = Lab.withSmallDevices(3);
        y.setRestartGap(1);
        y.advance(1);
        y.setRestartGap(30);
        check.due("a longer gap does not lengthen it", y.advance(1), 1);
        check.due("the longer gap from then on", y.advance(29), 0);
        check.due("30 seconds after the second", y.advance(1), 1);
        PoeSwitch z = Lab.withSmallDevices(1);
        z.setRestartGap(30);
        check.due("a timer of 0 stays 0", z.advance(1), 1);
    }

    private static void gapEdges(Check check) {
        PoeSwitch x = new PoeSwitch();
        check.due("smallest", x.setRestartGap(1), 2);
        check.due("largest", x.setRestartGap(30), 1);
        check.due("kept", x.setRestartGap(29), 30);
    }

    private static void previousGap(Check check) {
        PoeSwitch x = new PoeSwitch();
        for (int gap = 1; gap <= 30; gap++) {
            check.due("before " + gap, x.setRestartGap(gap), gap == 1 ? 2 : gap - 1);
            x.setRestartGap(31);
            x.setOverloadLimit(31 - gap);
            x.setCooldownTime(31 + gap);
            x.setReserve(100 + gap);
        }
    }

    private static void gapOutOfRange(Check check) {
        PoeSwitch x = new PoeSwitch();
        for (int seconds : Lab.outside(1, 30)) {
            check.due("gap " + seconds, x.setRestartGap(seconds), PoeSwitch.BAD_VALUE);
        }
        check.due("the gap is as it was", x.setRestartGap(2), 2);
    }

    // ---- promise 6

    private static void consecutiveSeconds(Check check) {
        PoeSwitch x = Lab.withSmallDevicesPowered(1);
        x.setOverloadLimit(4);
        for (int round = 0; round < 5; round++) {
            x.setLoad(0, 41);
            check.due("three overloaded seconds", x.advance(3), 0);
            x.setLoad(0, 40);
            check.due("and one that is not", x.advance(1), 0);
        }
        x.setLoad(0, 41);
        check.due("three", x.advance(3), 0);
        check.due("the fourth in a row", x.advance(1), 1);
        check.due("cut", x.eventKind(1), PoeSwitch.CUT);
    }

    private static void limitEdges(Check check) {
        PoeSwitch x = Lab.withSmallDevicesPowered(1);
        check.due("largest", x.setOverloadLimit(30), 3);
        x.setLoad(0, 41);
        check.due("29 seconds", x.advance(29), 0);
        check.due("30 seconds", x.advance(1), 1);
        PoeSwitch y = Lab.withSmallDevicesPowered(1);
        check.due("smallest", y.setOverloadLimit(1), 3);
        y.setLoad(0, 41);
        check.due("1 second", y.advance(1), 1);
    }

    private static void previousLimit(Check check) {
        PoeSwitch x = new PoeSwitch();
        for (int limit = 1; limit <= 30; limit++) {
            check.due("before " + limit, x.setOverloadLimit(limit), limit == 1 ? 3 : limit - 1);
            x.setOverloadLimit(31);
            x.setRestartGap(31 - limit);
            x.setCooldownTime(31 + limit);
            x.setReserve(100 + limit);
        }
    }

    private static void limitOutOfRange(Check check) {
        PoeSwitch x = new PoeSwitch();
        for (int seconds : Lab.outside(1, 30)) {
            check.due("limit " + seconds, x.setOverloadLimit(seconds), PoeSwitch.BAD_VALUE);
        }
        check.due("the limit is as it was", x.setOverloadLimit(3), 3);
    }

    // ---- promise 7

    /** Port 0 has been cut just now. */
    private static PoeSwitch cut(int cooldownTime) {
        PoeSwitch x = Lab.withSmallDevicesPowered(1);
        x.setOverloadLimit(1);
        x.setCooldownTime(cooldownTime);
        x.setLoad(0, 41);
        x.advance(1);
        return x;
    }

    private static void timeAtWork(Check check) {
        check.due("7", cut(7).cooldown(0), 7);
        check.due("8", cut(8).cooldown(0), 8);
    }

    private static void runningCooldownStays(Check check) {
        PoeSwitch x = cut(60);
        x.setCooldownTime(1);
        check.due("not shortened", x.cooldown(0), 60);
        check.due("until it is over", x.advance(59), 0);
        check.due("it is over", x.advance(1), 1);
        PoeSwitch y = cut(1);
        y.setCooldownTime(60);
        check.due("not lengthened", y.cooldown(0), 1);
        check.due("over in a second", y.advance(1), 1);
        y.advance(1);
        check.due("the new time for the next cut", y.cooldown(0), 60);
    }

    private static void timeEdges(Check check) {
        check.due("smallest", cut(1).cooldown(0), 1);
        check.due("largest", cut(60).cooldown(0), 60);
        check.due("smaller", cut(0).cooldown(0), 5);
        check.due("larger", cut(61).cooldown(0), 5);
    }

    private static void previousTime(Check check) {
        PoeSwitch x = new PoeSwitch();
        for (int time = 1; time <= 60; time++) {
            check.due("before " + time, x.setCooldownTime(time), time == 1 ? 5 : time - 1);
            x.setCooldownTime(61);
            x.setRestartGap(1 + (time + 1) % 30);
            x.setOverloadLimit(1 + (time + 2) % 30);
            x.setReserve(100 + time);
        }
    }

    private static void timeOutOfRange(Check check) {
        PoeSwitch x = new PoeSwitch();
        for (int seconds : Lab.outside(1, 60)) {
            check.due("time " + seconds, x.setCooldownTime(seconds), PoeSwitch.BAD_VALUE);
        }
        check.due("the time is as it was", x.setCooldownTime(5), 5);
    }

    // ---- promises 8 and 9

    private static void budgetZeroOrMore(Check check) {
        PoeSwitch x = Lab.withSmallDevicesPowered(2);
        check.due("grants do not matter", x.budget(), 1500);
        x.setReserve(1499);
        check.due("1", x.budget(), 1);
        x.setReserve(1500);
        check.due("0", x.budget(), 0);
        x.setReserve(1501);
        check.due("0 and not below", x.budget(), 0);
        x.setWorking(0, false);
        check.due("without a supply", x.budget(), 0);
    }

    private static void availableNegative(Check check) {
        PoeSwitch x = Lab.withSmallDevicesPowered(2);
        x.setCapacity(0, 81);
        check.due("1", x.available(), 1);
        x.setCapacity(0, 80);
        check.due("0", x.available(), 0);
        x.setCapacity(0, 79);
        check.due("-1", x.available(), -1);
        x.setWorking(0, false);
        check.due("-80", x.available(), -80);
        x.setReserve(3000);
        check.due("-80 with a reserve", x.available(), -80);
    }
}
