import java.util.function.Consumer;

/** Promises 5 to 8 and 14 to 17: taking, dropping, reading, writing and counting snapshots. */
public final class SnapshotTest {
    private final Check check = new Check();

    public static void main(String[] args) {
        SnapshotTest test = new SnapshotTest();
        test.promise5TakesLowestPlace();
        test.promise6DropsOne();
        test.promise6KeepsOldCopiesAway();
        test.promise7ReadsCopyOrVolume();
        test.promise8WritesCopy();
        test.promise8RefusesWithoutCopyBlocks();
        test.promise14CountsUsed();
        test.promise15FindsCopies();
        test.promise16SumsPlaces();
        test.promise17ComparesWords();
        test.refusesWrongPlacesFirst();
        test.refusesWrongBlocksAndWords();
        test.check.end();
    }

    private void promise5TakesLowestPlace() {
        SnapshotVolume x = new SnapshotVolume();
        for (int s = 0; s < 3; s++) {
            check.same("place of a snapshot", x.snapshot(), s);
        }
        x.fuse(0);
        check.refusesUnchanged("a fourth snapshot", Check.STATE, x, x::snapshot);
        check.same("isDown after that refusal", x.isDown(), false);
        x.fuse(-1);
        x.drop(0);
        x.drop(1);
        check.same("the lowest empty place", x.snapshot(), 0);
        check.same("the next empty place", x.snapshot(), 1);
        x.drop(1);
        check.same("the middle place", x.snapshot(), 1);
    }

    private void promise6DropsOne() {
        SnapshotVolume x = new SnapshotVolume();
        x.snapshot();
        x.snapshot();
        x.write(0, 0, 4);
        x.drop(0);
        check.same("places after drop", x.places(), 2);
        check.same("used after drop", x.used(), 1);
        check.same("the other snapshot's word", x.readSnapshot(1, 0, 0), 0);
        check.same("the volume's word", x.read(0, 0), 4);
        check.refusesUnchanged("a second drop", Check.NONE_THERE, x, () -> x.drop(0));
        check.refuses("readSnapshot of a dropped one", Check.NONE_THERE, () -> x.readSnapshot(0, 0, 0));
    }

    private void promise6KeepsOldCopiesAway() {
        SnapshotVolume x = new SnapshotVolume();
        x.snapshot();
        x.write(2, 0, 9);
        x.drop(0);
        check.same("the place again", x.snapshot(), 0);
        check.same("copy of the new snapshot", x.copyOf(0, 2), -1);
        check.same("word of the new snapshot", x.readSnapshot(0, 2, 0), 9);
        check.same("used", x.used(), 0);
        check.same("changed", x.changed(0), 0);
        check.same("copies of the next write", x.write(2, 0, 10), 1);
        check.same("copy block taken again", x.copyOf(0, 2), 0);
    }

    private void promise7ReadsCopyOrVolume() {
        SnapshotVolume x = new SnapshotVolume();
        for (int k = 0; k < 24; k++) {
            x.write(k / 4, k % 4, k);
        }
        x.snapshot();
        x.write(1, 0, 70);
        x.write(1, 3, 73);
        for (int k = 0; k < 24; k++) {
            check.same("snapshot's word " + k, x.readSnapshot(0, k / 4, k % 4), k);
        }
        x.snapshot();
        check.same("a later snapshot's word", x.readSnapshot(1, 1, 0), 70);
        check.same("the earlier snapshot's word", x.readSnapshot(0, 1, 0), 4);
    }

    private void promise8WritesCopy() {
        SnapshotVolume x = new SnapshotVolume();
        for (int i = 0; i < 4; i++) {
            x.write(3, i, 30 + i);
        }
        x.snapshot();
        x.snapshot();
        check.same("a first write to a shared block", x.writeSnapshot(1, 3, 2, 5), true);
        check.same("writes of it", x.writes(), 6 + 5);
        check.same("a write into the copy", x.writeSnapshot(1, 3, 0, 6), false);
        check.same("writes of it", x.writes(), 6 + 6);
        int[] due = {6, 31, 5, 33};
        for (int i = 0; i < 4; i++) {
            check.same("written snapshot's word " + i, x.readSnapshot(1, 3, i), due[i]);
            check.same("other snapshot's word " + i, x.readSnapshot(0, 3, i), 30 + i);
            check.same("volume's word " + i, x.read(3, i), 30 + i);
        }
        check.same("the other snapshot's copy", x.copyOf(0, 3), -1);
        check.same("a write of the word that is there", x.writeSnapshot(0, 3, 1, 31), true);
    }

    private void promise8RefusesWithoutCopyBlocks() {
        SnapshotVolume x = new SnapshotVolume();
        x.snapshot();
        x.snapshot();
        for (int b = 0; b < 6; b++) {
            x.writeSnapshot(0, b, 0, b);
        }
        for (int b = 0; b < 3; b++) {
            x.writeSnapshot(1, b, 0, b);
        }
        x.fuse(0);
        check.refusesUnchanged("a tenth copy", Check.STATE, x, () -> x.writeSnapshot(1, 3, 0, 1));
        check.same("isDown after that refusal", x.isDown(), false);
        x.fuse(-1);
        check.same("a write that needs no copy", x.writeSnapshot(1, 2, 0, 1), false);
        x.drop(0);
        check.same("a copy after drop", x.writeSnapshot(1, 3, 0, 1), true);
        check.same("where it lies", x.copyOf(1, 3), 0);
    }

    private void promise14CountsUsed() {
        SnapshotVolume x = new SnapshotVolume();
        check.same("used without snapshots", x.used(), 0);
        for (int s = 0; s < 3; s++) {
            x.snapshot();
        }
        for (int b = 0; b < 3; b++) {
            x.write(b, 0, 1);
            check.same("used after block " + b, x.used(), 3 * (b + 1));
        }
        for (int s = 0; s < 3; s++) {
            x.drop(s);
            check.same("used after drop " + s, x.used(), 6 - 3 * s);
        }
    }

    private void promise15FindsCopies() {
        SnapshotVolume x = new SnapshotVolume();
        x.snapshot();
        x.snapshot();
        x.write(5, 0, 1);
        x.writeSnapshot(1, 0, 0, 1);
        x.writeSnapshot(0, 0, 0, 1);
        check.same("copy of block 5 for place 0", x.copyOf(0, 5), 0);
        check.same("copy of block 5 for place 1", x.copyOf(1, 5), 1);
        check.same("copy of block 0 for place 1", x.copyOf(1, 0), 2);
        check.same("copy of block 0 for place 0", x.copyOf(0, 0), 3);
        check.same("no copy", x.copyOf(0, 3), -1);
        x.drop(0);
        x.write(3, 0, 1);
        x.write(4, 0, 1);
        check.same("the lowest free copy block", x.copyOf(1, 3), 0);
        check.same("the next free copy block", x.copyOf(1, 4), 3);
    }

    private void promise16SumsPlaces() {
        SnapshotVolume x = new SnapshotVolume();
        int[] taken = {1, 3, 7};
        for (int sum : taken) {
            x.snapshot();
            check.same("places", x.places(), sum);
        }
        x.drop(1);
        check.same("places without 1", x.places(), 5);
        x.drop(0);
        check.same("place 2 alone", x.places(), 4);
        x.drop(2);
        check.same("no places", x.places(), 0);
    }

    private void promise17ComparesWords() {
        SnapshotVolume x = new SnapshotVolume();
        x.snapshot();
        check.same("changed of a new snapshot", x.changed(0), 0);
        for (int b = 0; b < 6; b++) {
            x.write(b, b % 4, 1);
            check.same("changed after block " + b, x.changed(0), b + 1);
        }
        x.write(0, 3, 1);
        check.same("a block with two other words counts once", x.changed(0), 6);
        x.write(2, 2, 0);
        check.same("a copy with the same words is no change", x.changed(0), 5);
        x.writeSnapshot(0, 1, 1, 1);
        check.same("a snapshot written to the volume's word", x.changed(0), 4);
        x.snapshot();
        check.same("changed of the newer snapshot", x.changed(1), 0);
        x.writeSnapshot(1, 2, 3, 8);
        check.same("changed by writeSnapshot", x.changed(1), 1);
    }

    private void refusesWrongPlacesFirst() {
        for (int s : Volumes.WRONG_PLACES) {
            refusesPlace(s);
        }
        refusesPlace(2);
    }

    private void refusesPlace(int s) {
        refusesUnchanged("drop " + s, Check.NONE_THERE, x -> x.drop(s));
        refusesUnchanged("readSnapshot of " + s, Check.NONE_THERE, x -> x.readSnapshot(s, 9, 9));
        refusesUnchanged("writeSnapshot to " + s, Check.NONE_THERE, x -> x.writeSnapshot(s, 9, 9, 1));
        refusesUnchanged("rollback to " + s, Check.NONE_THERE, x -> x.rollback(s));
        refusesUnchanged("copyOf of " + s, Check.NONE_THERE, x -> x.copyOf(s, 9));
        refusesUnchanged("changed of " + s, Check.NONE_THERE, x -> x.changed(s));
    }

    private void refusesWrongBlocksAndWords() {
        for (int b : Volumes.WRONG_BLOCKS) {
            refusesUnchanged("copyOf block " + b, Check.ARGUMENT, x -> x.copyOf(1, b));
            refusesWord(b, 0);
        }
        for (int i : Volumes.WRONG_WORDS) {
            refusesWord(0, i);
        }
    }

    private void refusesWord(int b, int i) {
        String at = " of block " + b + ", word " + i;
        refusesUnchanged("readSnapshot" + at, Check.ARGUMENT, x -> x.readSnapshot(1, b, i));
        refusesUnchanged("writeSnapshot" + at, Check.ARGUMENT, x -> x.writeSnapshot(1, b, i, 7));
    }

    private void refusesUnchanged(
            String what, Class<? extends RuntimeException> due, Consumer<SnapshotVolume> call) {
        check.refusesUnchanged(what, due, SnapshotTest::fullAndFused, call);
    }

    /** Place 2 is empty, no copy block is free, and the first write is one too many. */
    private static SnapshotVolume fullAndFused() {
        SnapshotVolume x = Volumes.withCopies(9);
        x.fuse(0);
        return x;
    }
}
