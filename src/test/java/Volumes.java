import java.util.Random;

/** Volumes and numbers that the tests of boundary cases start from. */
final class Volumes {
    /** Just outside, far outside, and such that 4 times them or a shift by them wraps round to inside. */
    static final int[] WRONG_BLOCKS = wrong(6);
    static final int[] WRONG_WORDS = wrong(4);
    static final int[] WRONG_PLACES = wrong(3);

    private Volumes() {
    }

    private static int[] wrong(int bound) {
        return new int[] {
            -1, bound, -2, bound + 1, -bound, 32, 256, 65536, 1 << 30, (1 << 30) + 1, -(1 << 30),
            Integer.MIN_VALUE, Integer.MIN_VALUE + 1, Integer.MAX_VALUE
        };
    }

    /** Each word of the volume is another one: word i of block b is 10 * b + i + 1. */
    static SnapshotVolume numbered() {
        SnapshotVolume x = new SnapshotVolume();
        for (int b = 0; b < 6; b++) {
            for (int i = 0; i < 4; i++) {
                x.write(b, i, 10 * b + i + 1);
            }
        }
        return x;
    }

    static SnapshotVolume withSnapshots(int count) {
        SnapshotVolume x = numbered();
        for (int s = 0; s < count; s++) {
            x.snapshot();
        }
        return x;
    }

    /** Place 0 has copies of so many of the blocks 0 .. 5, place 1 of the rest; place 2 is empty. */
    static SnapshotVolume withCopies(int count) {
        SnapshotVolume x = withSnapshots(2);
        for (int k = 0; k < count; k++) {
            x.writeSnapshot(k / 6, k % 6, 0, 1000 + k);
        }
        return x;
    }

    /** No power from here on: the call that shows it writes once and would change a stamp. */
    static SnapshotVolume cut(SnapshotVolume x) {
        x.fuse(0);
        int places = x.places();
        Check.thrownBy(places == 0 ? x::snapshot : () -> x.drop(Integer.numberOfTrailingZeros(places)));
        return x;
    }

    /** A volume somewhere in its life, always the same for the same seed. */
    static SnapshotVolume lived(int seed) {
        Random random = new Random(seed);
        SnapshotVolume x = numbered();
        for (int k = 0; k < 40; k++) {
            int b = random.nextInt(6);
            int i = random.nextInt(4);
            int s = random.nextInt(3);
            int kind = random.nextInt(8);
            int word = random.nextInt(5);
            Check.thrownBy(() -> step(x, kind, s, b, i, word));
        }
        return x;
    }

    private static void step(SnapshotVolume x, int kind, int s, int b, int i, int word) {
        switch (kind) {
            case 0, 1 -> x.snapshot();
            case 2, 3 -> x.write(b, i, word);
            case 4, 5 -> x.writeSnapshot(s, b, i, word);
            case 6 -> x.rollback(s);
            default -> x.drop(s);
        }
    }
}
