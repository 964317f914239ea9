import java.util.Random;
import java.util.Set;
import java.util.TreeSet;
import java.util.function.Supplier;

/** Runs of 512 calls, drawn from fixed seeds, each answer held against the model's. */
public final class ModelTest {
    private static final int RUNS = 600;
    private static final int CALLS = 512;

    private final Check check = new Check();
    private final Set<String> seen = new TreeSet<>();
    private int ways;

    public static void main(String[] args) {
        ModelTest test = new ModelTest();
        for (int run = 0; run < RUNS; run++) {
            test.run(run);
        }
        test.sawEverything();
        test.check.end();
    }

    private void run(int seed) {
        Random random = new Random(seed);
        SnapshotVolume x = new SnapshotVolume();
        VolumeModel model = new VolumeModel();
        for (int call = 0; call < CALLS; call++) {
            compareOne("run " + seed + ", call " + call + ": ", random, x, model);
        }
    }

    private void compareOne(String where, Random random, SnapshotVolume x, VolumeModel model) {
        int s = near(random, 3);
        int b = near(random, 6);
        int i = near(random, 4);
        int word = random.nextInt(3);
        int n = random.nextInt(40) == 0 ? -random.nextInt(4) : random.nextInt(30);
        String with = "(s " + s + ", b " + b + ", i " + i + ", word " + word + ", n " + n + ")";
        switch (random.nextInt(model.isDown() ? 24 : 23)) {
            case 0, 1, 2, 3 -> compare(where, "write", with, () -> x.write(b, i, word), () -> model.write(b, i, word));
            case 4, 5 -> compare(where, "read", with, () -> x.read(b, i), () -> model.read(b, i));
            case 6, 7 -> compare(where, "snapshot", with, x::snapshot, model::snapshot);
            case 8 -> compare(where, "drop", with, () -> none(() -> x.drop(s)), () -> none(() -> model.drop(s)));
            case 9, 10 -> compare(where, "readSnapshot", with,
                    () -> x.readSnapshot(s, b, i), () -> model.readSnapshot(s, b, i));
            case 11, 12, 13 -> compare(where, "writeSnapshot", with,
                    () -> x.writeSnapshot(s, b, i, word), () -> model.writeSnapshot(s, b, i, word));
            case 14, 15 -> compare(where, "rollback", with, () -> x.rollback(s), () -> model.rollback(s));
            case 16 -> compare(where, "fuse", with, () -> x.fuse(n), () -> model.fuse(n));
            case 17 -> compare(where, "isDown", with, x::isDown, model::isDown);
            case 18 -> compare(where, "writes", with, x::writes, model::writes);
            case 19 -> compare(where, "used", with, x::used, model::used);
            case 20 -> compare(where, "copyOf", with, () -> x.copyOf(s, b), () -> model.copyOf(s, b));
            case 21 -> compare(where, "places", with, x::places, model::places);
            case 22 -> compareRare(where, random, with, x, model, s);
            default -> compare(where, "recover", with, x::recover, model::recover);
        }
    }

    private void compareRare(
            String where, Random random, String with, SnapshotVolume x, VolumeModel model, int s) {
        int kind = random.nextInt(16);
        if (kind == 0) {
            compare(where, "format", with, () -> none(x::format), () -> none(model::format));
        } else if (kind < 4) {
            compare(where, "recover", with, x::recover, model::recover);
        } else {
            compare(where, "changed", with, () -> x.changed(s), () -> model.changed(s));
        }
    }

    /** Mostly a number from 0 up to below the bound, now and then one just outside. */
    private static int near(Random random, int bound) {
        return random.nextInt(24) == 0 ? (random.nextBoolean() ? -1 : bound) : random.nextInt(bound);
    }

    private void compare(String where, String name, String with, Supplier<Object> got, Supplier<Object> due) {
        String answer = answerOf(got);
        check.same(where + name + with, answer, answerOf(due));
        seen.add(name + (answer.startsWith("throws") ? " " + answer : " answers"));
    }

    private static Object none(Runnable call) {
        call.run();
        return "none";
    }

    private static String answerOf(Supplier<Object> call) {
        try {
            return call.get().toString();
        } catch (RuntimeException e) {
            return "throws " + e.getClass().getSimpleName();
        }
    }

    /** The runs are worth something only if every call met each of its ways to end. */
    private void sawEverything() {
        String state = " throws IllegalStateException";
        String argument = " throws IllegalArgumentException";
        String noneThere = " throws NoSuchElementException";
        String power = " throws UnsupportedOperationException";
        sawEach("write", " answers", argument, state, power);
        sawEach("read", " answers", argument, power);
        sawEach("snapshot", " answers", state, power);
        sawEach("drop", " answers", noneThere, power);
        sawEach("readSnapshot", " answers", noneThere, argument, power);
        sawEach("writeSnapshot", " answers", noneThere, argument, state, power);
        sawEach("rollback", " answers", noneThere, state, power);
        sawEach("recover", " answers", state);
        sawEach("used", " answers", power);
        sawEach("copyOf", " answers", noneThere, argument, power);
        sawEach("places", " answers", power);
        sawEach("changed", " answers", noneThere, power);
        sawEach("format", " answers");
        sawEach("fuse", " answers");
        sawEach("isDown", " answers");
        sawEach("writes", " answers");
        check.same("calls' ways to end", seen.size(), ways);
    }

    private void sawEach(String name, String... ends) {
        for (String end : ends) {
            check.same("a run in which " + name + end, seen.contains(name + end), true);
            ways++;
        }
    }
}
