import java.io.IOException;
import java.lang.reflect.Method;
import java.lang.reflect.Modifier;
import java.nio.file.Files;
import java.nio.file.Path;
import java.util.List;
import java.util.function.Supplier;
import java.util.stream.Stream;

/** README.md tells what is so: its example's answers, every call of the face and every test. */
public final class ReadmeTest {
    private final Check check = new Check();
    private final List<String> lines;

    private ReadmeTest(List<String> lines) {
        this.lines = lines;
    }

    public static void main(String[] args) throws IOException {
        ReadmeTest test = new ReadmeTest(Files.readAllLines(Path.of("README.md")));
        test.exampleAnswersAsTold();
        test.tellsEveryCall();
        test.tellsEveryTest();
        test.check.end();
    }

    private void exampleAnswersAsTold() {
        SnapshotVolume volume = new SnapshotVolume();
        answers("volume.write(0, 0, 5);", () -> volume.write(0, 0, 5));
        answers("int s = volume.snapshot();", volume::snapshot);
        int s = 0;
        answers("volume.write(0, 0, 6);", () -> volume.write(0, 0, 6));
        answers("volume.readSnapshot(s, 0, 0);", () -> volume.readSnapshot(s, 0, 0));
        answers("volume.writeSnapshot(s, 0, 1, 7);", () -> volume.writeSnapshot(s, 0, 1, 7));
        answers("volume.changed(s);", () -> volume.changed(s));
        answers("volume.fuse(3);", () -> volume.fuse(3));
        check.refuses("the example's rollback", Check.POWER, () -> volume.rollback(s));
        answers("volume.recover();", volume::recover);
        answers("volume.read(0, 0);", () -> volume.read(0, 0));
        answers("volume.readSnapshot(s, 0, 1);", () -> volume.readSnapshot(s, 0, 1));
        volume.drop(s);
        answers("volume.places();", volume::places);
    }

    /** The answer stands in the comment behind the call, up to a colon if there is one. */
    private void answers(String call, Supplier<Object> answer) {
        String told = "nothing";
        for (String line : lines) {
            if (line.strip().startsWith(call) && line.contains("// ")) {
                told = line.substring(line.indexOf("// ") + 3).split(":")[0];
            }
        }
        check.same("README's " + call, answer.get().toString(), told);
    }

    private void tellsEveryCall() {
        for (Method m : SnapshotVolume.class.getDeclaredMethods()) {
            if (Modifier.isPublic(m.getModifiers())) {
                check.same("a row for " + m.getName(), hasRow("`" + m.getName() + "("), true);
            }
        }
    }

    private void tellsEveryTest() throws IOException {
        try (Stream<Path> files = Files.list(Path.of("src/test/java"))) {
            for (Path file : files.filter(f -> f.toString().endsWith("Test.java")).toList()) {
                String name = file.getFileName().toString().replace(".java", "");
                check.same("a row for " + name, hasRow(name + " |"), true);
            }
        }
    }

    private boolean hasRow(String start) {
        return lines.stream().anyMatch(line -> line.startsWith("| " + start));
    }
}
