import java.util.NoSuchElementException;

/** Counts answers that are as due and prints those that are not. */
final class Check {
    static final Class<IllegalArgumentException> ARGUMENT = IllegalArgumentException.class;
    static final Class<IllegalStateException> STATE = IllegalStateException.class;
    static final Class<NoSuchElementException> NONE_THERE = NoSuchElementException.class;
    static final Class<UnsupportedOperationException> POWER = UnsupportedOperationException.class;

    private int right;
    private int wrong;

    void same(String what, Object got, Object due) {
        if (got.equals(due)) {
            right++;
        } else {
            wrong++;
            System.out.println(what + " answered " + got + ", due is " + due);
        }
    }

    void refuses(String what, Class<? extends RuntimeException> due, Runnable call) {
        same(what, thrownBy(call), due.getSimpleName());
    }

    /** For refusals after which everything is as before, the writes counted too. */
    void refusesUnchanged(
            String what, Class<? extends RuntimeException> due, SnapshotVolume x, Runnable call) {
        String before = stateOf(x);
        refuses(what, due, call);
        same("the state after " + what, stateOf(x), before);
    }

    static String thrownBy(Runnable call) {
        try {
            call.run();
            return "nothing";
        } catch (RuntimeException e) {
            return e.getClass().getSimpleName();
        }
    }

    /** What the calls tell of a volume that is up, the fuse left out. */
    static String stateOf(SnapshotVolume x) {
        return contentOf(x) + " used " + x.used() + " writes " + x.writes() + " copies " + copiesOf(x);
    }

    /** The words of the volume and of its snapshots. */
    static String contentOf(SnapshotVolume x) {
        StringBuilder text = new StringBuilder(volumeOf(x));
        for (int s = 0; s < 3; s++) {
            text.append(" | ").append(snapshotOf(x, s));
        }
        return text.toString();
    }

    static String volumeOf(SnapshotVolume x) {
        StringBuilder text = new StringBuilder();
        for (int k = 0; k < 24; k++) {
            text.append(x.read(k / 4, k % 4)).append(k % 4 == 3 ? "; " : " ");
        }
        return text.toString();
    }

    static String snapshotOf(SnapshotVolume x, int s) {
        if ((x.places() >> s & 1) == 0) {
            return "empty";
        }
        StringBuilder text = new StringBuilder();
        for (int k = 0; k < 24; k++) {
            text.append(x.readSnapshot(s, k / 4, k % 4)).append(k % 4 == 3 ? "; " : " ");
        }
        return text.toString();
    }

    private static String copiesOf(SnapshotVolume x) {
        StringBuilder text = new StringBuilder();
        for (int k = 0; k < 18; k++) {
            int s = k / 6;
            text.append((x.places() >> s & 1) == 0 ? "." : String.valueOf(x.copyOf(s, k % 6))).append(' ');
        }
        return text.toString();
    }

    void end() {
        System.out.println(right + " answers as due, " + wrong + " not as due");
        if (wrong != 0 || right == 0) {
            System.exit(1);
        }
    }
}
