import java.util.function.Consumer;

/** Promises 10 to 12 and what the power does to every call that writes. */
public final class PowerTest {
    private final Check check = new Check();

    public static void main(String[] args) {
        PowerTest test = new PowerTest();
        test.promise10SetsFuse();
        test.promise10RefusesWrongFuses();
        test.promise10CountsEveryWrite();
        test.promise11RecoversNothing();
        test.promise11CountsMergedBlocks();
        test.promise12TellsDown();
        test.refusesEveryCallWhileDown();
        test.leavesNoSingleWriteHalfDone();
        test.leavesNoCopyHalfDone();
        test.finishesRollbackAtEveryCut();
        test.check.end();
    }

    private void promise10SetsFuse() {
        SnapshotVolume x = new SnapshotVolume();
        check.same("fuse 2", x.fuse(2), true);
        x.write(0, 0, 1);
        x.write(0, 1, 2);
        check.same("isDown once the writes are used up", x.isDown(), false);
        check.same("read needs no power", x.read(0, 1), 2);
        check.refuses("a third write", Check.POWER, () -> x.write(0, 2, 3));
        x.recover();
        check.same("the third word", x.read(0, 2), 0);
        check.same("no fuse after the cut", x.write(0, 2, 3), 0);
        x.fuse(0);
        check.same("a fuse in place of one set before", x.fuse(1), true);
        x.write(0, 3, 4);
        check.same("no fuse in place of one", x.fuse(-1), true);
        check.same("write without fuse", x.write(0, 3, 5), 0);
        check.same("the longest fuse", x.fuse(Integer.MAX_VALUE), true);
        check.same("write with the longest fuse", x.write(0, 3, 6), 0);
    }

    private void promise10RefusesWrongFuses() {
        SnapshotVolume x = new SnapshotVolume();
        x.fuse(1);
        check.same("fuse -2", x.fuse(-2), false);
        check.same("the lowest fuse", x.fuse(Integer.MIN_VALUE), false);
        x.write(0, 0, 1);
        check.refuses("the fuse set before holds", Check.POWER, () -> x.write(0, 0, 2));
        check.same("fuse while down", x.fuse(3), false);
        check.same("no fuse while down", x.fuse(-1), false);
        x.recover();
        for (int k = 0; k < 8; k++) {
            check.same("a fuse refused while down is not set", x.write(1, 1, k), 0);
        }
    }

    private void promise10CountsEveryWrite() {
        SnapshotVolume x = new SnapshotVolume();
        x.fuse(21);
        x.snapshot();
        x.write(0, 0, 1);
        x.writeSnapshot(0, 1, 1, 1);
        x.drop(0);
        x.snapshot();
        x.write(0, 0, 2);
        check.refuses("the 22nd write", Check.POWER, () -> x.write(1, 0, 2));
        check.same("writes", x.writes(), 21);
    }

    private void promise11RecoversNothing() {
        SnapshotVolume x = new SnapshotVolume();
        check.refusesUnchanged("recover while up", Check.STATE, x, x::recover);
        x.snapshot();
        x.fuse(0);
        check.refusesUnchanged("recover with a fuse", Check.STATE, x, x::recover);
        check.refuses("drop without power", Check.POWER, () -> x.drop(0));
        check.same("recover with ROLL 0", x.recover(), 0);
        check.same("places", x.places(), 1);
        check.refusesUnchanged("a second recover", Check.STATE, x, x::recover);
        x.write(1, 1, 1);
        x.rollback(0);
        x.fuse(0);
        check.refuses("write without power", Check.POWER, () -> x.write(1, 1, 1));
        int writesBefore = x.writes();
        check.same("recover after a rollback that ended", x.recover(), 0);
        check.same("writes of it", x.writes(), writesBefore);
    }

    /** Each of the three blocks takes 4 + 1 writes behind MARK and ROLL, and ROLL is written last. */
    private void promise11CountsMergedBlocks() {
        for (int cut = 0; cut < 18; cut++) {
            SnapshotVolume x = new SnapshotVolume();
            x.snapshot();
            x.write(0, 0, 1);
            x.write(2, 0, 1);
            x.write(5, 0, 1);
            x.fuse(cut);
            int writesBefore = x.writes();
            check.refuses("rollback cut at " + cut, Check.POWER, () -> x.rollback(0));
            check.same("writes up to the cut at " + cut, x.writes() - writesBefore, cut);
            int done = Math.max(0, cut - 2) / 5;
            int due = cut < 2 ? 0 : 3 - done;
            check.same("blocks of recover from " + cut, x.recover(), due);
            int written = cut < 2 ? 0 : 5 * due + 1;
            check.same("writes of recover from " + cut, x.writes() - writesBefore, cut + written);
            check.same("changed after recover from " + cut, x.changed(0), cut < 2 ? 3 : 0);
        }
    }

    private void promise12TellsDown() {
        SnapshotVolume x = new SnapshotVolume();
        check.same("isDown at first", x.isDown(), false);
        x.fuse(0);
        check.same("isDown with the fuse at 0", x.isDown(), false);
        check.refuses("snapshot without power", Check.POWER, x::snapshot);
        check.same("isDown after the cut", x.isDown(), true);
        check.same("isDown again", x.isDown(), true);
        x.recover();
        check.same("isDown after recover", x.isDown(), false);
    }

    private void refusesEveryCallWhileDown() {
        SnapshotVolume x = new SnapshotVolume();
        x.snapshot();
        x.write(1, 1, 1);
        String before = Check.stateOf(x);
        x.fuse(0);
        check.refuses("write without power", Check.POWER, () -> x.write(1, 1, 2));
        int[] numbers = {-1, 0, 9};
        for (int n : numbers) {
            check.refuses("write", Check.POWER, () -> x.write(n, n, 1));
            check.refuses("read", Check.POWER, () -> x.read(n, n));
            check.refuses("drop", Check.POWER, () -> x.drop(n));
            check.refuses("readSnapshot", Check.POWER, () -> x.readSnapshot(n, n, n));
            check.refuses("writeSnapshot", Check.POWER, () -> x.writeSnapshot(n, n, n, 1));
            check.refuses("rollback", Check.POWER, () -> x.rollback(n));
            check.refuses("copyOf", Check.POWER, () -> x.copyOf(n, n));
            check.refuses("changed", Check.POWER, () -> x.changed(n));
        }
        check.refuses("snapshot", Check.POWER, x::snapshot);
        check.refuses("used", Check.POWER, x::used);
        check.refuses("places", Check.POWER, x::places);
        check.same("fuse", x.fuse(0), false);
        check.same("writes", x.writes(), 7);
        check.same("isDown", x.isDown(), true);
        x.recover();
        check.same("the state after all that", Check.stateOf(x), before);
    }

    private void leavesNoSingleWriteHalfDone() {
        cutAt(0, "snapshot", SnapshotVolume::snapshot);
        cutAt(0, "drop", x -> x.drop(1));
        cutAt(0, "write of a block with copies", x -> x.write(0, 0, 99));
        cutAt(0, "writeSnapshot into a copy", x -> x.writeSnapshot(1, 0, 0, 99));
    }

    private void leavesNoCopyHalfDone() {
        for (int cut = 0; cut <= 10; cut++) {
            cutAt(cut, "write of a shared block", x -> x.write(3, 2, 99));
        }
        for (int cut = 0; cut <= 4; cut++) {
            cutAt(cut, "writeSnapshot to a shared block", x -> x.writeSnapshot(1, 3, 2, 99));
        }
    }

    /** The call, cut before its last write, leaves all words as they were, and whole copies alone. */
    private void cutAt(int cut, String what, Consumer<SnapshotVolume> call) {
        SnapshotVolume x = twoSnapshots();
        String before = Check.contentOf(x);
        int usedBefore = x.used();
        x.fuse(cut);
        check.refuses(what + " cut at " + cut, Check.POWER, () -> call.accept(x));
        check.same("recover from it", x.recover(), 0);
        check.same("words after it", Check.contentOf(x), before);
        check.same("copies after it", x.used() - usedBefore, cut / 5);
        check.same("the call again", Check.thrownBy(() -> call.accept(x)), "nothing");
    }

    /** Places 0 and 1, which both have a copy of block 0 and share block 3. */
    private static SnapshotVolume twoSnapshots() {
        SnapshotVolume x = new SnapshotVolume();
        for (int k = 0; k < 24; k++) {
            x.write(k / 4, k % 4, k);
        }
        x.snapshot();
        x.snapshot();
        x.write(0, 1, 50);
        x.write(0, 2, 60);
        return x;
    }

    private void finishesRollbackAtEveryCut() {
        SnapshotVolume whole = sharedBlocks();
        int writesBefore = whole.writes();
        String old = Check.contentOf(whole);
        whole.rollback(1);
        String put = Check.contentOf(whole);
        int needed = whole.writes() - writesBefore;
        for (int cut = 0; cut < needed; cut++) {
            SnapshotVolume x = sharedBlocks();
            x.fuse(cut);
            check.refuses("rollback cut at " + cut, Check.POWER, () -> x.rollback(1));
            x.recover();
            check.same("words after the cut at " + cut, Check.contentOf(x), cut < 2 ? old : put);
            check.same("used after it", x.used(), cut < 2 ? 4 : 9);
        }
        SnapshotVolume x = sharedBlocks();
        x.fuse(needed);
        check.same("rollback with just the fuse it needs", x.rollback(1), 3);
        check.same("words after it", Check.contentOf(x), put);
    }

    /** Place 1 has copies of blocks 0, 2 and 4, place 0 of 0; place 2 has none. */
    private static SnapshotVolume sharedBlocks() {
        SnapshotVolume x = new SnapshotVolume();
        for (int k = 0; k < 24; k++) {
            x.write(k / 4, k % 4, k);
        }
        x.snapshot();
        x.snapshot();
        x.write(0, 0, 100);
        x.writeSnapshot(1, 2, 1, 101);
        x.writeSnapshot(1, 4, 3, 102);
        x.snapshot();
        return x;
    }
}
