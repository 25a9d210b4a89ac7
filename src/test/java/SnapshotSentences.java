/** Promises 32 and 33: snapshots; and what is not promised. */
final class SnapshotSentences {
    private SnapshotSentences() {
    }

    static void enter(Book book) {
        book.section("Promise 32");
        book.plain("---- snapshots");
        book.test("Saves the complete state of the switch", SnapshotSentences::completeState);
        book.test("including the clock and the event log", SnapshotSentences::clockAndLog);
        book.test("but not the snapshots", SnapshotSentences::notTheSnapshots);
        book.test("An earlier snapshot in the same slot is overwritten.", SnapshotSentences::overwritten);
        book.test("slot: 0 or 1", SnapshotSentences::twoSlots);
        book.test("Returns the clock", SnapshotSentences::saveReturnsClock);
        book.test("NO_SUCH_INDEX if the slot does not exist", SnapshotSentences::saveNoSlot);

        book.section("Promise 33");
        book.test("Restores the state that was saved last in a slot.", SnapshotSentences::savedLast);
        book.test("The snapshot stays saved.", SnapshotSentences::staysSaved);
        book.test("slot: 0 or 1", SnapshotSentences::eitherSlot);
        book.test("Returns the clock after restoring", SnapshotSentences::restoreReturnsClock);
        book.test("NO_SUCH_INDEX if the slot does not exist", SnapshotSentences::restoreNoSlot);
        book.test("BAD_STATE if nothing was saved in it", SnapshotSentences::nothingSaved);

        book.section("Not promised");
        book.plain("How the state is held inside the object is free, as are the speed of each call, the text"
                + " of toString and the behaviour of equals and hashCode. Use of one object from several"
                + " threads at once is not promised to be safe. Nothing is promised beyond the answers and"
                + " state changes described above, and nothing about an object after its 512th call.");
    }

    /** Changes whatever can be changed. */
    private static void upset(PoeSwitch x) {
        for (int supply = 0; supply < 3; supply++) {
            x.setCapacity(supply, 2000 + supply);
            x.setWorking(supply, supply == 2);
        }
        x.setReserve(1);
        x.setRestartGap(1);
        x.setOverloadLimit(1);
        x.setCooldownTime(1);
        for (int port = 0; port < 8; port++) {
            x.disconnect(port);
            x.setEnabled(port, true);
            x.setPriority(port, 2 - port % 3);
            x.connect(port, port == 4 ? 200 : 999, 0, Lab.CLASS_2, 500 + port);
        }
        x.advance(17);
    }

    // ---- promise 32

    private static void completeState(Check check) {
        PoeSwitch x = Lab.busy();
        x.save(0);
        PoeSwitch twin = Lab.busy();
        twin.save(0);
        upset(x);
        x.restore(0);
        check.due("all as it was", Lab.whole(x).equals(Lab.whole(twin)) ? 1 : 0, 1);
        PoeSwitch y = Lab.busy();
        y.save(1);
        upset(y);
        y.restore(1);
        check.due("classes as they were", y.setRequest(0, 301), PoeSwitch.BAD_VALUE);
        check.due("a smaller grant", y.setRequest(0, 200), 250);
        check.due("the maximum, with the power there was", y.setRequest(0, 291), PoeSwitch.NO_BUDGET);
        check.due("all of that power", y.setRequest(0, 290), 200);
        check.due("class 1 again", y.setRequest(1, 41), PoeSwitch.BAD_VALUE);
        check.due("no class again", y.setRequest(5, 1), PoeSwitch.BAD_STATE);
        check.due("no device again", y.setRequest(7, 1), PoeSwitch.BAD_STATE);
        PoeSwitch fresh = new PoeSwitch();
        fresh.save(0);
        upset(fresh);
        fresh.restore(0);
        PoeSwitch other = new PoeSwitch();
        other.save(0);
        check.due("a new switch again", Lab.whole(fresh).equals(Lab.whole(other)) ? 1 : 0, 1);
    }

    private static void clockAndLog(Check check) {
        int[] counts = {0, 1, 15, 16, 17, 33};
        for (int events : counts) {
            PoeSwitch x = Lab.withAnEventEachSecond();
            if (events > 0) {
                x.advance(events);
            }
            x.save(0);
            String before = Lab.look(x);
            upset(x);
            x.restore(0);
            check.due("clock " + events, x.clock(), events);
            check.due("count " + events, x.eventCount(), Math.min(events, 16));
            check.due("all events of " + events, Lab.look(x).equals(before) ? 1 : 0, 1);
        }
    }

    private static void notTheSnapshots(Check check) {
        PoeSwitch x = new PoeSwitch();
        x.save(0);
        x.advance(1);
        x.save(1);
        x.restore(0);
        check.due("1 was saved after 0 and is not lost", x.restore(1), 1);
        x.restore(0);
        x.advance(5);
        x.save(1);
        x.restore(0);
        check.due("nor is it the older one", x.restore(1), 5);
        check.due("nor has 0 changed", x.restore(0), 0);
    }

    private static void overwritten(Check check) {
        for (int slot = 0; slot < 2; slot++) {
            PoeSwitch x = Lab.withSmallDevices(2);
            x.save(slot);
            x.advance(1);
            check.due("saved again", x.save(slot), 1);
            x.advance(2);
            x.setReserve(7);
            check.due("and again", x.save(slot), 3);
            x.advance(10);
            x.setReserve(8);
            check.due("the later one", x.restore(slot), 3);
            check.due("its ports", x.poweredPorts(), 3);
            check.due("its events", x.eventCount(), 2);
            check.due("its reserve", x.setReserve(0), 7);
            check.due("the other slot is still empty", x.restore(1 - slot), PoeSwitch.BAD_STATE);
        }
    }

    private static void twoSlots(Check check) {
        PoeSwitch x = new PoeSwitch();
        x.advance(1);
        check.due("slot 0", x.save(0), 1);
        x.advance(1);
        check.due("slot 1", x.save(1), 2);
        x.advance(1);
        check.due("each has its own, 0", x.restore(0), 1);
        check.due("each has its own, 1", x.restore(1), 2);
    }

    private static void saveReturnsClock(Check check) {
        PoeSwitch x = new PoeSwitch();
        check.due("0", x.save(0), 0);
        for (int i = 1; i <= 5; i++) {
            x.advance(60);
            check.due("" + 60 * i, x.save(i % 2), 60 * i);
            check.due("saving does not move it", x.clock(), 60 * i);
        }
    }

    private static void saveNoSlot(Check check) {
        PoeSwitch x = new PoeSwitch();
        for (int slot : Lab.outside(0, 1)) {
            check.due("slot " + slot, x.save(slot), PoeSwitch.NO_SUCH_INDEX);
        }
        check.due("nothing is saved in 0", x.restore(0), PoeSwitch.BAD_STATE);
        check.due("nothing is saved in 1", x.restore(1), PoeSwitch.BAD_STATE);
    }

    // ---- promise 33

    private static void savedLast(Check check) {
        PoeSwitch x = Lab.withSmallDevices(8);
        for (int i = 0; i < 8; i++) {
            x.save(i % 2);
            x.advance(2);
        }
        check.due("last in 0", x.restore(0), 12);
        check.due("its ports", x.poweredPorts(), 63);
        check.due("last in 1", x.restore(1), 14);
        check.due("its ports", x.poweredPorts(), 127);
    }

    private static void staysSaved(Check check) {
        PoeSwitch x = Lab.withSmallDevices(3);
        x.advance(3);
        x.save(0);
        String saved = Lab.look(x);
        for (int round = 0; round < 3; round++) {
            upset(x);
            check.due("clock", x.restore(0), 3);
            check.due("all as it was saved", Lab.look(x).equals(saved) ? 1 : 0, 1);
        }
        // What is done after restoring is not done to the snapshot.
        x.setReserve(9);
        x.advance(1);
        x.restore(0);
        check.due("reserve", x.setReserve(9), 0);
    }

    private static void eitherSlot(Check check) {
        for (int slot = 0; slot < 2; slot++) {
            PoeSwitch x = new PoeSwitch();
            x.advance(4);
            x.save(slot);
            x.advance(4);
            check.due("the empty one", x.restore(1 - slot), PoeSwitch.BAD_STATE);
            check.due("slot " + slot, x.restore(slot), 4);
        }
    }

    private static void restoreReturnsClock(Check check) {
        PoeSwitch x = new PoeSwitch();
        x.save(0);
        x.advance(60);
        x.save(1);
        x.advance(60);
        check.due("60", x.restore(1), 60);
        check.due("the clock", x.clock(), 60);
        check.due("0", x.restore(0), 0);
        check.due("the clock", x.clock(), 0);
        check.due("forward again", x.restore(1), 60);
        check.due("the clock", x.clock(), 60);
    }

    private static void restoreNoSlot(Check check) {
        PoeSwitch x = new PoeSwitch();
        for (int round = 0; round < 2; round++) {
            for (int slot : Lab.outside(0, 1)) {
                check.due("slot " + slot, x.restore(slot), PoeSwitch.NO_SUCH_INDEX);
            }
            // The second round is asked with both slots saved.
            x.save(0);
            x.save(1);
        }
    }

    private static void nothingSaved(Check check) {
        PoeSwitch x = Lab.withSmallDevices(1);
        x.advance(7);
        check.due("slot 0", x.restore(0), PoeSwitch.BAD_STATE);
        check.due("slot 1", x.restore(1), PoeSwitch.BAD_STATE);
        check.due("clock as it was", x.clock(), 7);
        check.due("ports as they were", x.poweredPorts(), 1);
        new PoeSwitch().save(1);
        check.due("another object's snapshot is none", x.restore(1), PoeSwitch.BAD_STATE);
        x.save(0);
        check.due("slot 1 is still empty", x.restore(1), PoeSwitch.BAD_STATE);
        check.due("slot 0 is not", x.restore(0), 7);
    }
}
