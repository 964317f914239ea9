import java.util.ArrayList;
import java.util.Arrays;
import java.util.List;
import java.util.Map;
import java.util.NoSuchElementException;
import java.util.TreeMap;

/**
 * The document's volume told another way: the disk is a map from names to values, a call first plans
 * its whole list of writes on a scratch disk, and then as many of them are done as the fuse allows.
 */
final class VolumeModel {
    private Map<String, Integer> disk;
    private Map<String, Integer> scratch;
    private List<Map.Entry<String, Integer>> plan;
    private int given;
    private Integer fuse;
    private boolean down;
    private int writes;

    VolumeModel() {
        format();
    }

    /** A tag is one word on the disk: 0 for NONE, else 6 * stamp + block. */
    void format() {
        disk = new TreeMap<>();
        for (String name : List.of("ROLL", "MARK", "stamp0", "stamp1", "stamp2")) {
            disk.put(name, 0);
        }
        for (int c = 0; c < 9; c++) {
            disk.put("tag" + c, 0);
            for (int i = 0; i < 4; i++) {
                disk.put(copyWord(c, i), 0);
                disk.put(blockWord(c % 6, i), 0);
            }
        }
        given = 0;
        fuse = null;
        down = false;
        writes = 0;
    }

    int write(int b, int i, int word) {
        begin();
        needWord(b, i);
        int made = planCopies(b);
        plan(blockWord(b, i), word);
        carryOut();
        return made;
    }

    int read(int b, int i) {
        begin();
        needWord(b, i);
        return disk.get(blockWord(b, i));
    }

    int snapshot() {
        begin();
        for (int s = 0; s < 3; s++) {
            if (disk.get("stamp" + s) == 0) {
                plan("stamp" + s, given + 1);
                carryOut();
                given++;
                return s;
            }
        }
        throw new IllegalStateException();
    }

    void drop(int s) {
        begin();
        needSnapshot(s);
        plan("stamp" + s, 0);
        carryOut();
    }

    int readSnapshot(int s, int b, int i) {
        begin();
        needSnapshot(s);
        needWord(b, i);
        return wordsOf(s, b)[i];
    }

    boolean writeSnapshot(int s, int b, int i, int word) {
        begin();
        needSnapshot(s);
        needWord(b, i);
        int c = copy(s, b);
        if (c >= 0) {
            plan(copyWord(c, i), word);
        } else {
            int[] words = wordsOf(s, b);
            words[i] = word;
            planCopy(s, b, words);
        }
        carryOut();
        return c < 0;
    }

    int rollback(int s) {
        begin();
        needSnapshot(s);
        plan("MARK", 0);
        plan("ROLL", 1 + s);
        int merged = planMerging();
        carryOut();
        return merged;
    }

    boolean fuse(int n) {
        if (n < -1 || down) {
            return false;
        }
        fuse = n == -1 ? null : n;
        return true;
    }

    int recover() {
        if (!down) {
            throw new IllegalStateException();
        }
        down = false;
        begin();
        int merged = disk.get("ROLL") == 0 ? 0 : planMerging();
        carryOut();
        return merged;
    }

    boolean isDown() {
        return down;
    }

    int writes() {
        return writes;
    }

    int used() {
        begin();
        return 9 - freeCopies().size();
    }

    int copyOf(int s, int b) {
        begin();
        needSnapshot(s);
        needWord(b, 0);
        return copy(s, b);
    }

    int places() {
        begin();
        return Math.min(1, stamp(0)) + 2 * Math.min(1, stamp(1)) + 4 * Math.min(1, stamp(2));
    }

    int changed(int s) {
        begin();
        needSnapshot(s);
        int count = 0;
        for (int b = 0; b < 6; b++) {
            count += Arrays.equals(wordsOf(s, b), volumeWords(b)) ? 0 : 1;
        }
        return count;
    }

    private void begin() {
        if (down) {
            throw new UnsupportedOperationException();
        }
        scratch = new TreeMap<>(disk);
        plan = new ArrayList<>();
    }

    private void plan(String name, int value) {
        scratch.put(name, value);
        plan.add(Map.entry(name, value));
    }

    private void carryOut() {
        int allowed = fuse == null ? plan.size() : Math.min(fuse, plan.size());
        for (Map.Entry<String, Integer> write : plan.subList(0, allowed)) {
            disk.put(write.getKey(), write.getValue());
        }
        writes += allowed;
        fuse = fuse == null ? null : Integer.valueOf(fuse - allowed);
        if (allowed < plan.size()) {
            down = true;
            fuse = null;
            throw new UnsupportedOperationException();
        }
    }

    private int planCopies(int b) {
        int made = 0;
        for (int s = 0; s < 3; s++) {
            if (stamp(s) > 0 && copy(s, b) < 0) {
                planCopy(s, b, volumeWords(b));
                made++;
            }
        }
        return made;
    }

    private void planCopy(int s, int b, int[] words) {
        List<Integer> free = freeCopies();
        if (free.isEmpty()) {
            throw new IllegalStateException();
        }
        int c = free.get(0);
        for (int i = 0; i < 4; i++) {
            plan(copyWord(c, i), words[i]);
        }
        plan("tag" + c, 6 * stamp(s) + b);
    }

    private int planMerging() {
        int s = scratch.get("ROLL") - 1;
        int merged = 0;
        while (scratch.get("MARK") <= 5 && nextCopied(s) <= 5) {
            int b = nextCopied(s);
            planCopies(b);
            int[] words = wordsOf(s, b);
            for (int i = 0; i < 4; i++) {
                plan(blockWord(b, i), words[i]);
            }
            plan("MARK", b + 1);
            merged++;
        }
        plan("ROLL", 0);
        return merged;
    }

    private int nextCopied(int s) {
        int b = scratch.get("MARK");
        while (b <= 5 && copy(s, b) < 0) {
            b++;
        }
        return b;
    }

    private List<Integer> freeCopies() {
        List<Integer> free = new ArrayList<>();
        for (int c = 0; c < 9; c++) {
            int owner = scratch.get("tag" + c) / 6;
            if (owner == 0 || owner != stamp(0) && owner != stamp(1) && owner != stamp(2)) {
                free.add(c);
            }
        }
        return free;
    }

    private int copy(int s, int b) {
        for (int c = 0; c < 9; c++) {
            if (scratch.get("tag" + c) == 6 * stamp(s) + b) {
                return c;
            }
        }
        return -1;
    }

    private int[] wordsOf(int s, int b) {
        int c = copy(s, b);
        int[] words = volumeWords(b);
        for (int i = 0; i < 4 && c >= 0; i++) {
            words[i] = scratch.get(copyWord(c, i));
        }
        return words;
    }

    private int[] volumeWords(int b) {
        int[] words = new int[4];
        for (int i = 0; i < 4; i++) {
            words[i] = scratch.get(blockWord(b, i));
        }
        return words;
    }

    private int stamp(int s) {
        return scratch.get("stamp" + s);
    }

    private void needSnapshot(int s) {
        if (disk.getOrDefault("stamp" + s, 0) == 0) {
            throw new NoSuchElementException();
        }
    }

    private void needWord(int b, int i) {
        if (!disk.containsKey(blockWord(b, i))) {
            throw new IllegalArgumentException();
        }
    }

    private static String blockWord(int b, int i) {
        return "block" + b + "." + i;
    }

    private static String copyWord(int c, int i) {
        return "copy" + c + "." + i;
    }
}
