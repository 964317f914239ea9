import java.util.NoSuchElementException;

/**
 * A volume whose blocks are written in place, with snapshots that get a copy of a block before it
 * changes under them, and with rollbacks that a power cut cannot leave half done.
 */
public final class SnapshotVolume {
    private static final int BLOCKS = 6;
    private static final int WORDS = 4;
    private static final int COPY_BLOCKS = 9;
    private static final int PLACES = 3;

    private static final int EMPTY = 0;
    // Below every stamp, so that a copy block without a tag belongs to no place, not even an empty one.
    private static final int NO_TAG = -1;
    private static final int NO_COPY = -1;
    private static final int NO_PLACE = -1;
    private static final int NO_WORD = -1;
    private static final int NO_FUSE = -1;

    // The disk: it changes in the put methods alone, so that every write meets the fuse and is counted.
    private final int[] blockWords = new int[BLOCKS * WORDS];
    private final int[] copyWords = new int[COPY_BLOCKS * WORDS];
    private final int[] tagStamps = new int[COPY_BLOCKS];
    private final int[] tagBlocks = new int[COPY_BLOCKS];
    private final int[] stamps = new int[PLACES];
    private int roll;
    private int mark;

    private int lastStamp;
    private int fuseLeft;
    private boolean down;
    private int writesDone;

    public SnapshotVolume() {
        clearAll();
    }

    public void format() {
        clearAll();
    }

    public int write(int b, int i, int word)
            throws IllegalArgumentException, IllegalStateException, UnsupportedOperationException {
        requireUp();
        requireWord(b, i);
        requireFree(countSharers(b));
        int made = copyForSharers(b);
        putBlockWord(b, i, word);
        return made;
    }

    public int read(int b, int i) throws IllegalArgumentException, UnsupportedOperationException {
        requireUp();
        requireWord(b, i);
        return blockWords[b * WORDS + i];
    }

    public int snapshot() throws IllegalStateException, UnsupportedOperationException {
        requireUp();
        int s = lowestEmptyPlace();
        if (s == NO_PLACE) {
            throw new IllegalStateException("no place is empty");
        }
        putStamp(s, lastStamp + 1);
        lastStamp++;
        return s;
    }

    public void drop(int s) throws NoSuchElementException, UnsupportedOperationException {
        requireUp();
        requireSnapshot(s);
        putStamp(s, EMPTY);
    }

    public int readSnapshot(int s, int b, int i)
            throws NoSuchElementException, IllegalArgumentException, UnsupportedOperationException {
        requireUp();
        requireSnapshot(s);
        requireWord(b, i);
        return snapshotWord(s, b, i);
    }

    public boolean writeSnapshot(int s, int b, int i, int word)
            throws NoSuchElementException, IllegalArgumentException, IllegalStateException,
                    UnsupportedOperationException {
        requireUp();
        requireSnapshot(s);
        requireWord(b, i);
        int c = findCopy(s, b);
        if (c != NO_COPY) {
            putCopyWord(c, i, word);
            return false;
        }
        requireFree(1);
        copyBlock(s, b, i, word);
        return true;
    }

    public int rollback(int s)
            throws NoSuchElementException, IllegalStateException, UnsupportedOperationException {
        requireUp();
        requireSnapshot(s);
        requireFree(countCopiesToMerge(s));
        putMark(0);
        putRoll(1 + s);
        return mergeFromMark(s);
    }

    public boolean fuse(int n) {
        if (down || n < NO_FUSE) {
            return false;
        }
        fuseLeft = n;
        return true;
    }

    public int recover() throws IllegalStateException {
        if (!down) {
            throw new IllegalStateException("the volume is up");
        }
        down = false;
        // A cut took the fuse away and a volume that is down takes no new one: merging ends this time.
        return roll == 0 ? 0 : mergeFromMark(roll - 1);
    }

    public boolean isDown() {
        return down;
    }

    public int writes() {
        return writesDone;
    }

    public int used() throws UnsupportedOperationException {
        requireUp();
        return COPY_BLOCKS - countFree();
    }

    public int copyOf(int s, int b)
            throws NoSuchElementException, IllegalArgumentException, UnsupportedOperationException {
        requireUp();
        requireSnapshot(s);
        requireBlock(b);
        return findCopy(s, b);
    }

    public int places() throws UnsupportedOperationException {
        requireUp();
        int sum = 0;
        for (int s = 0; s < PLACES; s++) {
            if (hasSnapshot(s)) {
                sum += 1 << s;
            }
        }
        return sum;
    }

    public int changed(int s) throws NoSuchElementException, UnsupportedOperationException {
        requireUp();
        requireSnapshot(s);
        int count = 0;
        for (int b = 0; b < BLOCKS; b++) {
            if (differs(s, b)) {
                count++;
            }
        }
        return count;
    }

    private void clearAll() {
        for (int k = 0; k < BLOCKS * WORDS; k++) {
            blockWords[k] = 0;
        }
        for (int k = 0; k < COPY_BLOCKS * WORDS; k++) {
            copyWords[k] = 0;
        }
        for (int c = 0; c < COPY_BLOCKS; c++) {
            tagStamps[c] = NO_TAG;
            tagBlocks[c] = 0;
        }
        for (int s = 0; s < PLACES; s++) {
            stamps[s] = EMPTY;
        }
        roll = 0;
        mark = 0;
        lastStamp = 0;
        fuseLeft = NO_FUSE;
        down = false;
        writesDone = 0;
    }

    private void requireUp() {
        if (down) {
            throw new UnsupportedOperationException("the volume is down");
        }
    }

    private void requireSnapshot(int s) {
        if (!hasSnapshot(s)) {
            throw new NoSuchElementException("no snapshot in that place");
        }
    }

    private void requireBlock(int b) {
        if (b < 0 || b >= BLOCKS) {
            throw new IllegalArgumentException("no such block");
        }
    }

    private void requireWord(int b, int i) {
        requireBlock(b);
        if (i < 0 || i >= WORDS) {
            throw new IllegalArgumentException("no such word");
        }
    }

    private void requireFree(int needed) {
        if (countFree() < needed) {
            throw new IllegalStateException("too few copy blocks are free");
        }
    }

    private boolean hasSnapshot(int s) {
        return s >= 0 && s < PLACES && stamps[s] != EMPTY;
    }

    private int lowestEmptyPlace() {
        for (int s = 0; s < PLACES; s++) {
            if (!hasSnapshot(s)) {
                return s;
            }
        }
        return NO_PLACE;
    }

    /** Asked anew each time: dropping a snapshot leaves its tags as they are. */
    private boolean isFree(int c) {
        for (int s = 0; s < PLACES; s++) {
            if (tagStamps[c] == stamps[s]) {
                return false;
            }
        }
        return true;
    }

    private int countFree() {
        int count = 0;
        for (int c = 0; c < COPY_BLOCKS; c++) {
            if (isFree(c)) {
                count++;
            }
        }
        return count;
    }

    private int lowestFree() {
        for (int c = 0; c < COPY_BLOCKS; c++) {
            if (isFree(c)) {
                return c;
            }
        }
        return NO_COPY;
    }

    private int findCopy(int s, int b) {
        if (!hasSnapshot(s)) {
            return NO_COPY;
        }
        for (int c = 0; c < COPY_BLOCKS; c++) {
            if (tagStamps[c] == stamps[s] && tagBlocks[c] == b) {
                return c;
            }
        }
        return NO_COPY;
    }

    private int snapshotWord(int s, int b, int i) {
        int c = findCopy(s, b);
        return c == NO_COPY ? blockWords[b * WORDS + i] : copyWords[c * WORDS + i];
    }

    private boolean differs(int s, int b) {
        for (int i = 0; i < WORDS; i++) {
            if (snapshotWord(s, b, i) != blockWords[b * WORDS + i]) {
                return true;
            }
        }
        return false;
    }

    /** A sharer of a block is a snapshot without a copy of its own: what it reads is the volume's. */
    private boolean shares(int s, int b) {
        return hasSnapshot(s) && findCopy(s, b) == NO_COPY;
    }

    private int countSharers(int b) {
        int count = 0;
        for (int s = 0; s < PLACES; s++) {
            if (shares(s, b)) {
                count++;
            }
        }
        return count;
    }

    private int countCopiesToMerge(int s) {
        int count = 0;
        for (int b = 0; b < BLOCKS; b++) {
            if (findCopy(s, b) != NO_COPY) {
                count += countSharers(b);
            }
        }
        return count;
    }

    private int copyForSharers(int b) {
        int made = 0;
        for (int s = 0; s < PLACES; s++) {
            if (shares(s, b)) {
                copyBlock(s, b, NO_WORD, 0);
                made++;
            }
        }
        return made;
    }

    /** The tag comes last: until it is written, a power cut leaves the copy block free. */
    private void copyBlock(int s, int b, int replaced, int word) {
        int c = lowestFree();
        // No call comes here without a free copy block: each has counted them before its first write.
        if (c == NO_COPY) {
            return;
        }
        for (int i = 0; i < WORDS; i++) {
            putCopyWord(c, i, i == replaced ? word : blockWords[b * WORDS + i]);
        }
        putTag(c, stamps[s], b);
    }

    /**
     * A block that a power cut left half merged is merged whole again: MARK has not passed it, and
     * the other snapshots got their copies before its first word changed.
     */
    private int mergeFromMark(int s) {
        int merged = 0;
        for (int b = mark; b < BLOCKS; b++) {
            int c = findCopy(s, b);
            if (c != NO_COPY) {
                copyForSharers(b);
                putBlockBack(b, c);
                putMark(b + 1);
                merged++;
            }
        }
        putRoll(0);
        return merged;
    }

    private void putBlockBack(int b, int c) {
        for (int i = 0; i < WORDS; i++) {
            putBlockWord(b, i, copyWords[c * WORDS + i]);
        }
    }

    private void putBlockWord(int b, int i, int word) {
        countWrite();
        blockWords[b * WORDS + i] = word;
    }

    private void putCopyWord(int c, int i, int word) {
        countWrite();
        copyWords[c * WORDS + i] = word;
    }

    private void putTag(int c, int stamp, int b) {
        countWrite();
        tagStamps[c] = stamp;
        tagBlocks[c] = b;
    }

    private void putStamp(int s, int stamp) {
        countWrite();
        stamps[s] = stamp;
    }

    private void putRoll(int value) {
        countWrite();
        roll = value;
    }

    private void putMark(int value) {
        countWrite();
        mark = value;
    }

    private void countWrite() {
        if (fuseLeft == 0) {
            fuseLeft = NO_FUSE;
            down = true;
            throw new UnsupportedOperationException("the power is cut");
        }
        if (fuseLeft > 0) {
            fuseLeft--;
        }
        writesDone++;
    }
}
