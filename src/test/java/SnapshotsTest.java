/** Promises 32 and 33: snapshots. */
public final class SnapshotsTest {
    private static final Check CHECK = new Check("SnapshotsTest");

    public static void main(String[] args) {
        wrongSlots();
        everySettingIsRestored();
        powerStateIsRestored();
        logIsRestored();
        slotsAreApart();
        CHECK.end();
    }

    private static void wrongSlots() {
        PoeSwitch x = new PoeSwitch();
        int[] wrong = {-1, 2, Integer.MIN_VALUE, Integer.MAX_VALUE};
        for (int slot : wrong) {
            CHECK.due("32 no slot", x.save(slot), PoeSwitch.NO_SUCH_INDEX);
            CHECK.due("33 no slot", x.restore(slot), PoeSwitch.NO_SUCH_INDEX);
        }
        CHECK.due("33 empty 0", x.restore(0), PoeSwitch.BAD_STATE);
        CHECK.due("33 empty 1", x.restore(1), PoeSwitch.BAD_STATE);
        x.advance(7);
        CHECK.due("32 save 1", x.save(1), 7);
        CHECK.due("33 0 is still empty", x.restore(0), PoeSwitch.BAD_STATE);
        CHECK.due("33 1 is not", x.restore(1), 7);
        CHECK.due("33 the snapshot stays", x.restore(1), 7);
    }

    private static void everySettingIsRestored() {
        PoeSwitch x = new PoeSwitch();
        x.setCapacity(0, 10);
        x.setCapacity(1, 20);
        x.setCapacity(2, 30);
        x.setWorking(1, false);
        x.setReserve(5);
        x.setRestartGap(6);
        x.setOverloadLimit(7);
        x.setCooldownTime(8);
        x.setEnabled(2, false);
        x.setPriority(3, 1);
        x.connect(4, 200, 0, 40, 50);
        x.setRequest(4, 60);
        x.connect(5, 1, 0, 40, 51);
        x.save(0);
        x.setCapacity(0, 0);
        x.setCapacity(1, 0);
        x.setCapacity(2, 0);
        x.setWorking(0, false);
        x.setWorking(1, true);
        x.setReserve(0);
        x.setRestartGap(1);
        x.setOverloadLimit(1);
        x.setCooldownTime(1);
        x.setEnabled(2, true);
        x.setPriority(3, 2);
        x.disconnect(4);
        x.connect(4, 1, 0, 10, 1);
        x.disconnect(5);
        x.connect(6, 200, 0, 0, 0);
        CHECK.due("33 restore", x.restore(0), 0);
        CHECK.due("33 working 0", x.setWorking(0, true), 1);
        CHECK.due("33 working 1", x.setWorking(1, false), 0);
        CHECK.due("33 capacity 0", x.setCapacity(0, 10), 10);
        CHECK.due("33 capacity 1", x.setCapacity(1, 20), 20);
        CHECK.due("33 capacity 2", x.setCapacity(2, 30), 30);
        CHECK.due("33 reserve", x.setReserve(5), 5);
        CHECK.due("33 gap", x.setRestartGap(6), 6);
        CHECK.due("33 limit", x.setOverloadLimit(7), 7);
        CHECK.due("33 cooldown time", x.setCooldownTime(8), 8);
        CHECK.due("33 enabled", x.setEnabled(2, false), 0);
        CHECK.due("33 priority", x.setPriority(3, 1), 1);
        CHECK.due("33 request", x.request(4), 60);
        CHECK.due("33 class", x.setRequest(4, 300), 60);
        CHECK.due("33 load 4", x.setLoad(4, 0), 50);
        CHECK.due("33 load 5", x.setLoad(5, 0), 51);
        CHECK.due("33 detected", x.eligiblePorts(), 16);
        CHECK.due("33 no device", x.disconnect(6), PoeSwitch.BAD_STATE);
        x.restore(0);
        CHECK.due("33 later changes are not in the snapshot", x.request(4), 60);
        CHECK.due("33 nor this one", x.setLoad(4, 0), 50);
    }

    private static void powerStateIsRestored() {
        PoeSwitch x = new PoeSwitch();
        x.setRestartGap(3);
        x.connect(0, 200, 0, 10, 41);
        x.connect(1, 200, 0, 10, 41);
        x.connect(2, 200, 0, 10, 40);
        x.advance(5);
        CHECK.due("32 save", x.save(1), 5);
        CHECK.due("32 cooldown", x.cooldown(0), 4);
        CHECK.due("32 counter", x.overload(1), 1);
        CHECK.due("32 powered", x.poweredPorts(), 2);
        int after = x.advance(60);
        int powered = x.poweredPorts();
        CHECK.due("33 restore", x.restore(1), 5);
        CHECK.due("33 clock", x.clock(), 5);
        CHECK.due("33 cooldown", x.cooldown(0), 4);
        CHECK.due("33 counter", x.overload(1), 1);
        CHECK.due("33 powered", x.poweredPorts(), 2);
        CHECK.due("33 grant", x.grant(1), 40);
        CHECK.due("33 timer at 2", x.advance(1), 0);
        CHECK.due("33 timer at 1", x.advance(1), 2);
        CHECK.due("33 cut at 6", x.eventKind(3), PoeSwitch.CUT);
        CHECK.due("33 powered at 6", x.eventPort(4), 2);
        x.restore(1);
        CHECK.due("33 the same future", x.advance(60), after);
        CHECK.due("33 the same ports", x.poweredPorts(), powered);
    }

    private static void logIsRestored() {
        PoeSwitch x = new PoeSwitch();
        x.setOverloadLimit(1);
        x.setCooldownTime(1);
        x.setRestartGap(1);
        x.connect(3, 200, 0, 10, 41);
        x.advance(5);
        x.save(0);
        x.advance(18);
        x.save(1);
        x.disconnect(3);
        x.connect(5, 200, 0, 10, 41);
        x.advance(33);
        CHECK.due("33 restore 0", x.restore(0), 5);
        CHECK.due("33 count", x.eventCount(), 5);
        for (int index = 0; index < 5; index++) {
            CHECK.due("33 time", x.eventTime(index), index);
            CHECK.due("33 port", x.eventPort(index), 3);
            CHECK.due("33 kind", x.eventKind(index), index % 2 == 0 ? PoeSwitch.POWERED : PoeSwitch.CUT);
        }
        CHECK.due("33 no more", x.eventTime(5), PoeSwitch.NO_SUCH_INDEX);
        CHECK.due("33 restore 1", x.restore(1), 23);
        CHECK.due("33 count", x.eventCount(), 16);
        for (int index = 0; index < 16; index++) {
            CHECK.due("33 time", x.eventTime(index), 7 + index);
            CHECK.due("33 port", x.eventPort(index), 3);
            CHECK.due("33 kind", x.eventKind(index), index % 2 == 0 ? PoeSwitch.CUT : PoeSwitch.POWERED);
        }
    }

    private static void slotsAreApart() {
        PoeSwitch x = new PoeSwitch();
        x.setReserve(1);
        x.save(0);
        x.advance(1);
        x.setReserve(2);
        x.save(1);
        x.advance(1);
        x.setReserve(3);
        CHECK.due("33 slot 0", x.restore(0), 0);
        CHECK.due("33 reserve of 0", x.setReserve(9), 1);
        CHECK.due("33 slot 1 is no part of slot 0", x.restore(1), 1);
        CHECK.due("33 reserve of 1", x.setReserve(4), 2);
        x.advance(3);
        CHECK.due("32 overwrite 0", x.save(0), 4);
        x.setReserve(5);
        CHECK.due("33 the new 0", x.restore(0), 4);
        CHECK.due("33 its reserve", x.setReserve(6), 4);
        CHECK.due("33 the old 1", x.restore(1), 1);
        CHECK.due("33 its reserve", x.setReserve(7), 2);
        PoeSwitch y = new PoeSwitch();
        CHECK.due("33 objects are apart", y.restore(0), PoeSwitch.BAD_STATE);
    }
}
