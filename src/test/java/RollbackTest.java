/** Promise 9: rollback, without a power cut. */
public final class RollbackTest {
    private final Check check = new Check();

    public static void main(String[] args) {
        RollbackTest test = new RollbackTest();
        test.putsVolumeBack();
        test.keepsOtherSnapshots();
        test.writesBlocksOfSameWords();
        test.rollsBackToWrittenSnapshot();
        test.needsCopyBlocksInAll();
        test.takesLastCopyBlocks();
        test.check.end();
    }

    private void putsVolumeBack() {
        SnapshotVolume x = new SnapshotVolume();
        for (int k = 0; k < 24; k++) {
            x.write(k / 4, k % 4, k);
        }
        String before = Check.volumeOf(x);
        x.snapshot();
        x.write(0, 0, -1);
        x.write(5, 3, -2);
        x.write(5, 2, -3);
        check.same("blocks of rollback", x.rollback(0), 2);
        check.same("the volume", Check.volumeOf(x), before);
        check.same("the snapshot", Check.snapshotOf(x, 0), before);
        check.same("places", x.places(), 1);
        check.same("changed", x.changed(0), 0);
        check.same("its copies stay", x.used(), 2);
        check.same("blocks of a second rollback", x.rollback(0), 2);
    }

    private void keepsOtherSnapshots() {
        SnapshotVolume x = new SnapshotVolume();
        x.write(1, 0, 10);
        x.snapshot();
        x.snapshot();
        x.write(1, 0, 20);
        x.drop(1);
        x.snapshot();
        x.snapshot();
        x.writeSnapshot(2, 1, 0, 30);
        int writesBefore = x.writes();
        check.same("blocks of rollback", x.rollback(0), 1);
        check.same("writes of rollback", x.writes() - writesBefore, 2 + 5 + 5 + 1);
        check.same("the volume's word", x.read(1, 0), 10);
        check.same("word of the one put back to", x.readSnapshot(0, 1, 0), 10);
        check.same("word of the sharer", x.readSnapshot(1, 1, 0), 20);
        check.same("word of the one with a copy", x.readSnapshot(2, 1, 0), 30);
        check.same("copy made for the sharer", x.copyOf(1, 1), 2);
        check.same("places", x.places(), 7);
    }

    private void writesBlocksOfSameWords() {
        SnapshotVolume x = new SnapshotVolume();
        x.snapshot();
        check.same("rollback with no copies", x.rollback(0), 0);
        check.same("writes of it", x.writes(), 1 + 3);
        x.write(2, 0, 0);
        check.same("changed", x.changed(0), 0);
        check.same("rollback with a copy of the same words", x.rollback(0), 1);
        check.same("writes of it", x.writes(), 4 + 6 + 8);
    }

    private void rollsBackToWrittenSnapshot() {
        SnapshotVolume x = new SnapshotVolume();
        x.snapshot();
        x.writeSnapshot(0, 3, 1, 77);
        check.same("rollback", x.rollback(0), 1);
        check.same("the word that was written to the snapshot", x.read(3, 1), 77);
        x.writeSnapshot(0, 3, 1, 78);
        check.same("the volume after a later writeSnapshot", x.read(3, 1), 77);
    }

    /** Two snapshots share four blocks that place 0 has copies of: 8 copies are needed, 5 are free. */
    private void needsCopyBlocksInAll() {
        SnapshotVolume x = new SnapshotVolume();
        x.snapshot();
        for (int b = 0; b < 4; b++) {
            x.write(b, 0, b + 1);
        }
        x.snapshot();
        x.snapshot();
        x.fuse(0);
        check.refusesUnchanged("rollback with too few copy blocks", Check.STATE, x, () -> x.rollback(0));
        check.same("isDown after that refusal", x.isDown(), false);
        x.fuse(-1);
        x.drop(1);
        check.same("rollback once 4 are needed and 5 free", x.rollback(0), 4);
        check.same("used", x.used(), 8);
    }

    private void takesLastCopyBlocks() {
        SnapshotVolume x = new SnapshotVolume();
        x.snapshot();
        for (int b = 0; b < 3; b++) {
            x.write(b, 0, b + 1);
        }
        x.snapshot();
        x.snapshot();
        check.same("rollback that needs all that are free", x.rollback(0), 3);
        check.same("used", x.used(), 9);
        for (int b = 0; b < 3; b++) {
            check.same("copy for place 1 of block " + b, x.copyOf(1, b), 3 + 2 * b);
            check.same("copy for place 2 of block " + b, x.copyOf(2, b), 4 + 2 * b);
        }
        x.writeSnapshot(0, 0, 0, 5);
        check.same("a rollback that needs none while none is free", x.rollback(0), 3);
        check.refusesUnchanged("a write while none is free", Check.STATE, x, () -> x.write(5, 0, 1));
    }
}
