import java.util.function.Consumer;

/** The boundary cases that promises 1 to 9 and 14 to 17 name, a test for each sentence. */
public final class PromiseEdgeTest {
    private static final String WRONG_WORD = "IllegalArgumentException when b is not 0 .. 5 or i not 0 .. 3";
    private static final String NO_SNAPSHOT = "NoSuchElementException when there is none in that place";

    private final Check check = new Check();

    public static void main(String[] args) {
        PromiseEdgeTest test = new PromiseEdgeTest();
        test.volumeEdges();
        test.snapshotEdges();
        test.countingEdges();
        test.check.end();
    }

    private void volumeEdges() {
        promise1IsAsAfterFormat();
        promise2ClearsWords();
        promise2ClearsTagsAndStamps();
        promise2ClearsRollAndMark();
        promise2TakesFuseAway();
        promise2BringsUp();
        promise2CountsNoWrite();
        promise3WordBecomesWord();
        promise3AnswersCopies();
        promise3RefusesWrongWords();
        promise3RefusesWithTooFewFree();
        promise4ReadsEveryWord();
        promise4RefusesWrongWords();
    }

    private void snapshotEdges() {
        promise5AnswersPlace();
        promise5RefusesWithoutEmptyPlace();
        promise6SnapshotIsNoMore();
        promise6RefusesWrongPlaces();
        promise7ReadsEveryWord();
        promise7RefusesWrongPlaces();
        promise7RefusesWrongWords();
        promise8WordBecomesWord();
        promise8RefusesWrongPlaces();
        promise8RefusesWrongWords();
        promise8RefusesWithoutFree();
        promise9KeepsSnapshots();
        promise9AnswersBlocks();
        promise9RefusesWrongPlaces();
        promise9RefusesWithTooFewFree();
    }

    private void countingEdges() {
        promise14CountsFromNoneToAll();
        promise15AnswersCopyBlock();
        promise15RefusesWrongPlaces();
        promise15RefusesWrongBlocks();
        promise16SumsEverySet();
        promise17CountsFromNoneToAll();
        promise17RefusesWrongPlaces();
    }

    private static SnapshotVolume full() {
        return Volumes.withCopies(9);
    }

    private void promise1IsAsAfterFormat() {
        check.sentence("As after format(), with no writes counted.");
        SnapshotVolume formatted = Volumes.lived(1);
        formatted.format();
        check.same("a new volume", Check.stateOf(new SnapshotVolume()), Check.stateOf(formatted));
        check.same("writes of a new volume", new SnapshotVolume().writes(), 0);
        check.same("isDown of a new volume", new SnapshotVolume().isDown(), false);
    }

    private void promise2ClearsWords() {
        check.sentence("All words of blocks and copy blocks are 0");
        SnapshotVolume x = full();
        x.format();
        check.same("words", Check.volumeOf(x), "0 0 0 0; ".repeat(6));
        x.snapshot();
        check.same("words of a snapshot", Check.snapshotOf(x, 0), "0 0 0 0; ".repeat(6));
    }

    /** The stamps given after format are those given before it: a tag that was left would be theirs. */
    private void promise2ClearsTagsAndStamps() {
        check.sentence("all tags NONE, all stamps 0");
        SnapshotVolume x = full();
        x.snapshot();
        x.format();
        check.same("places", x.places(), 0);
        check.same("used", x.used(), 0);
        for (int s = 0; s < 3; s++) {
            check.same("place of a new snapshot", x.snapshot(), s);
            for (int b = 0; b < 6; b++) {
                check.same("copy of block " + b + " for place " + s, x.copyOf(s, b), -1);
            }
        }
        check.same("used with three new snapshots", x.used(), 0);
        check.same("copies of a write", x.write(0, 0, 1), 3);
        check.same("the first copy block", x.copyOf(0, 0), 0);
    }

    private void promise2ClearsRollAndMark() {
        check.sentence("ROLL and MARK 0");
        for (int n = 2; n < 8; n++) {
            SnapshotVolume x = Volumes.withSnapshots(1);
            x.write(4, 0, -1);
            x.fuse(n);
            check.refuses("rollback with fuse " + n, Check.POWER, () -> x.rollback(0));
            x.format();
            x.snapshot();
            x.writeSnapshot(0, 0, 0, 5);
            Volumes.cut(x);
            check.same("recover after format", x.recover(), 0);
            check.same("writes of it", x.writes(), 6);
            check.same("the volume after it", x.read(0, 0), 0);
        }
    }

    private void promise2TakesFuseAway() {
        check.sentence("no fuse is set");
        for (int n = 0; n < 3; n++) {
            SnapshotVolume x = Volumes.numbered();
            x.fuse(n);
            x.format();
            for (int k = 0; k < 20; k++) {
                int word = k;
                check.same("write " + k, Check.thrownBy(() -> x.write(0, 0, word)), "nothing");
            }
        }
        SnapshotVolume x = Volumes.cut(Volumes.withSnapshots(2));
        x.format();
        for (int k = 0; k < 20; k++) {
            check.same("write " + k + " after format while down", x.write(0, 0, k), 0);
        }
    }

    private void promise2BringsUp() {
        check.sentence("and the volume is up, also when it was down");
        SnapshotVolume x = Volumes.numbered();
        x.format();
        check.same("isDown after format while up", x.isDown(), false);
        Volumes.cut(x);
        check.same("isDown after the cut", x.isDown(), true);
        x.format();
        check.same("isDown after format while down", x.isDown(), false);
        check.same("read after it", x.read(5, 3), 0);
        check.refuses("recover after it", Check.STATE, x::recover);
    }

    private void promise2CountsNoWrite() {
        check.sentence("nothing of this counts as a write.");
        SnapshotVolume x = full();
        x.format();
        check.same("writes", x.writes(), 0);
        x.format();
        check.same("writes after another format", x.writes(), 0);
        x.fuse(0);
        check.same("format with the fuse at 0", Check.thrownBy(x::format), "nothing");
        check.same("isDown after it", x.isDown(), false);
    }

    private void promise3WordBecomesWord() {
        check.sentence("Word i of block b becomes word");
        int[] words = {0, 1, -1, Integer.MAX_VALUE, Integer.MIN_VALUE};
        for (int k = 0; k < 24; k++) {
            SnapshotVolume x = Volumes.numbered();
            for (int word : words) {
                x.write(k / 4, k % 4, word);
                check.same("word " + k, x.read(k / 4, k % 4), word);
            }
            for (int other = 0; other < 24; other++) {
                int due = other == k ? Integer.MIN_VALUE : 10 * (other / 4) + other % 4 + 1;
                check.same("word " + other + " beside " + k, x.read(other / 4, other % 4), due);
            }
        }
    }

    private void promise3AnswersCopies() {
        check.sentence("answers how many copies were made.");
        for (int count = 0; count <= 3; count++) {
            SnapshotVolume x = Volumes.withSnapshots(count);
            check.same("copies with " + count + " snapshots", x.write(5, 3, -1), count);
            check.same("copies of the next write to the block", x.write(5, 0, -1), 0);
            check.same("copies of a write of the same word", x.write(0, 0, 1), count);
        }
    }

    private void promise3RefusesWrongWords() {
        check.sentence(WRONG_WORD);
        refusesWrongWords((x, b, i) -> x.write(b, i, 7));
        for (int k = 0; k < 24; k++) {
            check.same("write to word " + k, new SnapshotVolume().write(k / 4, k % 4, 7), 0);
        }
    }

    private void promise4RefusesWrongWords() {
        check.sentence(WRONG_WORD + ".");
        refusesWrongWords(SnapshotVolume::read);
    }

    private interface WordCall {
        void on(SnapshotVolume x, int b, int i);
    }

    private void refusesWrongWords(WordCall call) {
        for (int b = 0; b < 6; b++) {
            for (int i : Volumes.WRONG_WORDS) {
                refusesWord(call, b, i);
            }
        }
        for (int i = -1; i <= 4; i++) {
            for (int b : Volumes.WRONG_BLOCKS) {
                refusesWord(call, b, i);
            }
        }
    }

    private void refusesWord(WordCall call, int b, int i) {
        SnapshotVolume x = Volumes.withSnapshots(1);
        x.fuse(0);
        check.refuses("block " + b + ", word " + i, Check.ARGUMENT, () -> call.on(x, b, i));
        check.same("isDown after block " + b + ", word " + i, x.isDown(), false);
    }

    /** So many are needed by the snapshots, so many are free: refused only when free is the lower one. */
    private void promise3RefusesWithTooFewFree() {
        check.sentence("IllegalStateException when fewer copy blocks are free than copies are needed.");
        for (int free = 0; free <= 4; free++) {
            for (int needed = 0; needed <= 3; needed++) {
                SnapshotVolume x = withFree(free, needed);
                check.same("free copy blocks", 9 - x.used(), free);
                if (free < needed) {
                    check.refusesUnchanged(needed + " needed, " + free + " free", Check.STATE, x, () -> x.write(5, 1, -9));
                } else {
                    check.same(needed + " needed, " + free + " free", x.write(5, 1, -9), needed);
                    check.same("free after it", 9 - x.used(), free - needed);
                }
            }
        }
    }

    /** Three snapshots, of which so many have no copy of block 5. */
    private static SnapshotVolume withFree(int free, int sharers) {
        SnapshotVolume x = Volumes.withSnapshots(3);
        for (int s = sharers; s < 3; s++) {
            x.writeSnapshot(s, 5, 0, 50 + s);
        }
        for (int k = 0; 9 - x.used() > free; k++) {
            x.writeSnapshot(k % 3, k / 3, 0, 60 + k);
        }
        return x;
    }

    private void promise4ReadsEveryWord() {
        check.sentence("Word i of block b.");
        SnapshotVolume x = Volumes.numbered();
        for (int b = 0; b < 6; b++) {
            for (int i = 0; i < 4; i++) {
                check.same("word " + i + " of block " + b, x.read(b, i), 10 * b + i + 1);
            }
        }
        check.same("writes", x.writes(), 24);
    }

    private void promise5AnswersPlace() {
        check.sentence("Takes a snapshot; answers its place.");
        SnapshotVolume x = Volumes.numbered();
        for (int s = 0; s < 3; s++) {
            x.write(0, 0, s);
            check.same("place", x.snapshot(), s);
            x.write(0, 0, 90);
        }
        for (int s = 0; s < 3; s++) {
            check.same("the word when place " + s + " was taken", x.readSnapshot(s, 0, 0), s);
        }
    }

    private void promise5RefusesWithoutEmptyPlace() {
        check.sentence("IllegalStateException when no place is empty.");
        SnapshotVolume x = Volumes.withSnapshots(3);
        check.refusesUnchanged("a fourth snapshot", Check.STATE, x, x::snapshot);
        for (int s = 0; s < 3; s++) {
            x.drop(s);
            check.same("snapshot with one place empty", x.snapshot(), s);
            check.refuses("snapshot with none again", Check.STATE, x::snapshot);
        }
    }

    private void promise6SnapshotIsNoMore() {
        check.sentence("The snapshot in a place is no more.");
        for (int s = 0; s < 3; s++) {
            SnapshotVolume x = Volumes.withSnapshots(3);
            x.write(1, 1, -1);
            int gone = s;
            x.drop(s);
            check.refuses("drop again", Check.NONE_THERE, () -> x.drop(gone));
            check.refuses("readSnapshot", Check.NONE_THERE, () -> x.readSnapshot(gone, 0, 0));
            check.refuses("writeSnapshot", Check.NONE_THERE, () -> x.writeSnapshot(gone, 0, 0, 1));
            check.refuses("rollback", Check.NONE_THERE, () -> x.rollback(gone));
            check.refuses("copyOf", Check.NONE_THERE, () -> x.copyOf(gone, 0));
            check.refuses("changed", Check.NONE_THERE, () -> x.changed(gone));
            for (int other = 0; other < 3; other++) {
                if (other != s) {
                    check.same("word of place " + other, x.readSnapshot(other, 1, 1), 12);
                }
            }
            check.same("the volume's word", x.read(1, 1), -1);
            check.same("used", x.used(), 2);
        }
    }

    /** In a volume with place 2 empty, and in one with every place empty. */
    private void refusesWrongPlaces(PlaceCall call) {
        for (int s : Volumes.WRONG_PLACES) {
            refusesPlace("place " + s, full(), x -> call.on(x, s));
        }
        refusesPlace("the empty place 2", full(), x -> call.on(x, 2));
        for (int s = 0; s < 3; s++) {
            int place = s;
            refusesPlace("place " + s + " of a new volume", new SnapshotVolume(), x -> call.on(x, place));
        }
    }

    private interface PlaceCall {
        void on(SnapshotVolume x, int s);
    }

    private void refusesPlace(String what, SnapshotVolume x, Consumer<SnapshotVolume> call) {
        x.fuse(0);
        check.refusesUnchanged(what, Check.NONE_THERE, x, () -> call.accept(x));
    }

    private void promise6RefusesWrongPlaces() {
        check.sentence("java.util.NoSuchElementException when there is none there (or no such place).");
        refusesWrongPlaces(SnapshotVolume::drop);
    }

    private void promise7ReadsEveryWord() {
        check.sentence("Word i of block b of a snapshot.");
        SnapshotVolume x = Volumes.withSnapshots(3);
        x.writeSnapshot(2, 5, 3, -1);
        x.write(0, 0, -2);
        for (int k = 0; k < 24; k++) {
            int due = 10 * (k / 4) + k % 4 + 1;
            check.same("word " + k + " of place 0", x.readSnapshot(0, k / 4, k % 4), due);
            check.same("word " + k + " of place 2", x.readSnapshot(2, k / 4, k % 4), k == 23 ? -1 : due);
        }
    }

    private void promise7RefusesWrongPlaces() {
        check.sentence(NO_SNAPSHOT + "; " + WRONG_WORD + ".");
        refusesWrongPlaces((x, s) -> x.readSnapshot(s, 0, 0));
    }

    private void promise7RefusesWrongWords() {
        check.sentence(WRONG_WORD + ".");
        refusesWrongWords((x, b, i) -> x.readSnapshot(0, b, i));
    }

    private void promise8WordBecomesWord() {
        check.sentence("Word i of block b of a snapshot becomes word; answers whether a copy was made.");
        for (int k = 0; k < 24; k++) {
            SnapshotVolume x = Volumes.withSnapshots(3);
            check.same("a copy made", x.writeSnapshot(2, k / 4, k % 4, Integer.MIN_VALUE), true);
            check.same("the word", x.readSnapshot(2, k / 4, k % 4), Integer.MIN_VALUE);
            check.same("a copy made again", x.writeSnapshot(2, k / 4, k % 4, Integer.MAX_VALUE), false);
            check.same("the word again", x.readSnapshot(2, k / 4, k % 4), Integer.MAX_VALUE);
            check.same("the volume's word", x.read(k / 4, k % 4), 10 * (k / 4) + k % 4 + 1);
            check.same("used", x.used(), 1);
            check.same("changed", x.changed(2), 1);
        }
        SnapshotVolume x = Volumes.withSnapshots(1);
        check.same("a copy for the word that is there", x.writeSnapshot(0, 0, 0, 1), true);
    }

    private void promise8RefusesWrongPlaces() {
        check.sentence(NO_SNAPSHOT);
        refusesWrongPlaces((x, s) -> x.writeSnapshot(s, 0, 0, 7));
    }

    private void promise8RefusesWrongWords() {
        check.sentence(WRONG_WORD);
        refusesWrongWords((x, b, i) -> x.writeSnapshot(0, b, i, 7));
    }

    private void promise8RefusesWithoutFree() {
        check.sentence("IllegalStateException when a copy is needed and no copy block is free.");
        SnapshotVolume x = Volumes.withCopies(8);
        check.same("the last free copy block", x.writeSnapshot(1, 5, 0, 1), true);
        check.same("used", x.used(), 9);
        check.refusesUnchanged("a copy needed, none free", Check.STATE, x, () -> x.writeSnapshot(1, 4, 0, 1));
        check.same("none needed, none free", x.writeSnapshot(1, 5, 0, 2), false);
        x.drop(0);
        check.same("a copy needed, six free", x.writeSnapshot(1, 4, 0, 1), true);
    }

    private void promise9KeepsSnapshots() {
        check.sentence("Puts the volume back to a snapshot, which stays, as do all others");
        for (int s = 0; s < 3; s++) {
            SnapshotVolume x = Volumes.withSnapshots(3);
            x.writeSnapshot(s, 0, 0, 300);
            x.writeSnapshot(s, 5, 3, 301);
            String[] before = new String[3];
            for (int k = 0; k < 3; k++) {
                before[k] = Check.snapshotOf(x, k);
            }
            x.rollback(s);
            check.same("the volume put back to " + s, Check.volumeOf(x), before[s]);
            for (int k = 0; k < 3; k++) {
                check.same("place " + k + " after rollback to " + s, Check.snapshotOf(x, k), before[k]);
            }
            check.same("places", x.places(), 7);
        }
    }

    private void promise9AnswersBlocks() {
        check.sentence("answers how many blocks were written.");
        for (int count = 0; count <= 6; count++) {
            SnapshotVolume x = Volumes.withCopies(count);
            x.drop(1);
            check.same("blocks with " + count + " copies", x.rollback(0), count);
            check.same("blocks once more", x.rollback(0), count);
        }
        SnapshotVolume x = Volumes.withSnapshots(1);
        x.write(0, 0, 1);
        check.same("a block whose words are the same", x.rollback(0), 1);
    }

    private void promise9RefusesWrongPlaces() {
        check.sentence(NO_SNAPSHOT);
        refusesWrongPlaces(SnapshotVolume::rollback);
    }

    /** Place 0 has copies of so many blocks, of which the other places share each. */
    private void promise9RefusesWithTooFewFree() {
        check.sentence("IllegalStateException when fewer copy blocks are free than copies are needed in all.");
        for (int others = 0; others <= 2; others++) {
            for (int count = 0; count <= 6; count++) {
                SnapshotVolume x = Volumes.withSnapshots(1 + others);
                for (int b = 0; b < count; b++) {
                    x.writeSnapshot(0, b, 0, -b - 1);
                }
                int needed = others * count;
                int free = 9 - count;
                String what = needed + " needed, " + free + " free";
                if (free < needed) {
                    check.refusesUnchanged(what, Check.STATE, x, () -> x.rollback(0));
                } else {
                    check.same(what, x.rollback(0), count);
                    check.same("used with " + what, x.used(), count + needed);
                }
            }
        }
        SnapshotVolume x = Volumes.withCopies(9);
        check.same("none needed, none free", x.rollback(1), 3);
        check.refusesUnchanged("three needed, none free", Check.STATE, x, () -> x.rollback(0));
    }

    private void promise14CountsFromNoneToAll() {
        check.sentence("How many copy blocks are used.");
        for (int count = 0; count <= 9; count++) {
            SnapshotVolume x = Volumes.withCopies(count);
            check.same("used", x.used(), count);
            x.drop(0);
            check.same("used without place 0", x.used(), count <= 6 ? 0 : count - 6);
        }
        check.same("used of a new volume", new SnapshotVolume().used(), 0);
    }

    private void promise15AnswersCopyBlock() {
        check.sentence("The copy block that is a snapshot's copy of block b; -1 when it has none.");
        SnapshotVolume x = full();
        for (int k = 0; k < 12; k++) {
            check.same("copy of block " + k % 6 + " for place " + k / 6, x.copyOf(k / 6, k % 6), k < 9 ? k : -1);
        }
        check.same("place of a new snapshot", x.snapshot(), 2);
        for (int b = 0; b < 6; b++) {
            check.same("copy of block " + b + " for the new snapshot", x.copyOf(2, b), -1);
        }
    }

    private void promise15RefusesWrongPlaces() {
        check.sentence("NoSuchElementException when there is no snapshot in that place");
        refusesWrongPlaces((x, s) -> x.copyOf(s, 0));
    }

    private void promise15RefusesWrongBlocks() {
        check.sentence("IllegalArgumentException when b is not 0 .. 5.");
        for (int b : Volumes.WRONG_BLOCKS) {
            check.refusesUnchanged("block " + b, Check.ARGUMENT, PromiseEdgeTest::full, x -> x.copyOf(0, b));
        }
    }

    private void promise16SumsEverySet() {
        check.sentence("The sum of 1 << s over the places that have a snapshot.");
        for (int sum = 0; sum < 8; sum++) {
            SnapshotVolume x = Volumes.withSnapshots(3);
            for (int s = 0; s < 3; s++) {
                if ((sum >> s & 1) == 0) {
                    x.drop(s);
                }
            }
            check.same("places", x.places(), sum);
        }
    }

    private void promise17CountsFromNoneToAll() {
        check.sentence("How many blocks have other words in a snapshot than in the volume.");
        for (int i = 0; i < 4; i++) {
            SnapshotVolume x = Volumes.withSnapshots(2);
            for (int b = 0; b < 6; b++) {
                check.same("changed before block " + b, x.changed(0), b);
                x.writeSnapshot(0, b, i, -1);
            }
            check.same("changed with every block", x.changed(0), 6);
            check.same("changed of the other snapshot", x.changed(1), 0);
        }
        SnapshotVolume x = Volumes.withSnapshots(1);
        x.write(3, 3, 34);
        check.same("a copy with the same words", x.changed(0), 0);
        x.write(3, 3, 35);
        check.same("a copy with another word", x.changed(0), 1);
        x.writeSnapshot(0, 3, 3, 35);
        check.same("a snapshot written to the same word", x.changed(0), 0);
    }

    private void promise17RefusesWrongPlaces() {
        check.sentence(NO_SNAPSHOT + ".");
        refusesWrongPlaces(SnapshotVolume::changed);
    }
}
