import java.util.NoSuchElementException;
import java.util.function.Consumer;
import java.util.function.Supplier;

/** Counts answers that are as due and prints those that are not. */
final class Check {
    static final Class<IllegalArgumentException> ARGUMENT = IllegalArgumentException.class;
    static final Class<IllegalStateException> STATE = IllegalStateException.class;
    static final Class<NoSuchElementException> NONE_THERE = NoSuchElementException.class;
    static final Class<UnsupportedOperationException> POWER = UnsupportedOperationException.class;

    private int right;
    private int wrong;
    private String sentence = "";
    private int sentences;

    /** The document's words that the answers from here on are held to: told with each wrong one. */
    void sentence(String words) {
        sentence = "\"" + words + "\": ";
        sentences++;
    }

    void same(String what, Object got, Object due) {
        if (got.equals(due)) {
            right++;
        } else {
            wrong++;
            System.out.println(sentence + what + " answered " + got + ", due is " + due);
        }
    }

    void refuses(String what, Class<? extends RuntimeException> due, Runnable call) {
        same(what, thrownBy(call), due.getSimpleName());
    }

    /** For refusals after which everything is as before, the writes counted too. */
    void refusesUnchanged(
            String what, Class<? extends RuntimeException> due, SnapshotVolume x, Runnable call) {
        String before = stateOf(x);
        refuses(what, due, call);
        same("the state after " + what, stateOf(x), before);
    }

    /** The same on a volume of its own: an object is held to its promises for 512 calls alone. */
    void refusesUnchanged(
            String what,
            Class<? extends RuntimeException> due,
            Supplier<SnapshotVolume> make,
            Consumer<SnapshotVolume> call) {
        SnapshotVolume x = make.get();
        refusesUnchanged(what, due, x, () -> call.accept(x));
    }

    static String thrownBy(Runnable call) {
        try {
            call.run();
            return "nothing";
        } catch (RuntimeException e) {
            return e.getClass().getSimpleName();
        }
    }

    /** What the calls tell of a volume that is up, the fuse left out; some 120 calls at most. */
    static String stateOf(SnapshotVolume x) {
        StringBuilder text = new StringBuilder(contentOf(x));
        text.append(" used ").append(x.used()).append(" writes ").append(x.writes()).append(" copies");
        int places = x.places();
        for (int k = 0; k < 18; k++) {
            text.append(' ').append(isTaken(places, k / 6) ? x.copyOf(k / 6, k % 6) : -2);
        }
        return text.toString();
    }

    /** The words of the volume and of its snapshots. */
    static String contentOf(SnapshotVolume x) {
        StringBuilder text = new StringBuilder(volumeOf(x));
        int places = x.places();
        for (int s = 0; s < 3; s++) {
            text.append(" | ").append(isTaken(places, s) ? snapshotOf(x, s) : "empty");
        }
        return text.toString();
    }

    static String volumeOf(SnapshotVolume x) {
        StringBuilder text = new StringBuilder();
        for (int k = 0; k < 24; k++) {
            text.append(x.read(k / 4, k % 4)).append(k % 4 == 3 ? "; " : " ");
        }
        return text.toString();
    }

    static String snapshotOf(SnapshotVolume x, int s) {
        StringBuilder text = new StringBuilder();
        for (int k = 0; k < 24; k++) {
            text.append(x.readSnapshot(s, k / 4, k % 4)).append(k % 4 == 3 ? "; " : " ");
        }
        return text.toString();
    }

    private static boolean isTaken(int places, int s) {
        return (places >> s & 1) == 1;
    }

    void end() {
        String held = sentences == 0 ? "" : sentences + " sentences, ";
        System.out.println(held + right + " answers as due, " + wrong + " not as due");
        if (wrong != 0 || right == 0) {
            System.exit(1);
        }
    }
}
