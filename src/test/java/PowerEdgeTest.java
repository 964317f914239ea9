import java.util.List;
import java.util.function.Consumer;
import java.util.function.Supplier;

/** The boundary cases of the power and of refused calls, and those of promises 10 to 13. */
public final class PowerEdgeTest {
    private record Call(String name, Consumer<SnapshotVolume> call) {
        void on(SnapshotVolume x) {
            call.accept(x);
        }
    }

    private record Refusal(
            String name,
            Class<? extends RuntimeException> due,
            Supplier<SnapshotVolume> make,
            Consumer<SnapshotVolume> call) {
    }

    private final Check check = new Check();

    public static void main(String[] args) {
        PowerEdgeTest test = new PowerEdgeTest();
        test.fuseLetsSoManyWritesBeDone();
        test.cutBringsDownAtOnce();
        test.cutLeavesNoFuse();
        test.whatWasWrittenIsWritten();
        test.recoverBringsUp();
        test.refusedCallChangesNothing();
        test.refusedCallLeavesFuse();
        test.refusedRollbackLeavesRoll();
        test.downIsLookedAtFirst();
        test.someCallsAnswerWhileDown();
        test.firstNamedIsThrown();
        test.promise10ReplacesFuse();
        test.promise10TakesFuseAway();
        test.promise10RefusesBelow();
        test.promise10RefusesWhileDown();
        test.promise11FinishesWhatRollSays();
        test.promise11AnswersZeroWithoutRoll();
        test.promise11RefusesWhileUp();
        test.promise12TellsDown();
        test.promise13CountsSinceFormat();
        test.check.end();
    }

    /** Place 0 has copies of blocks 0, 1 and 5, place 1 of block 1; place 2 is empty. */
    private static SnapshotVolume writable() {
        SnapshotVolume x = Volumes.withSnapshots(1);
        x.write(0, 1, 500);
        x.writeSnapshot(0, 5, 3, 501);
        x.snapshot();
        x.write(1, 2, 502);
        return x;
    }

    private static List<Call> writingCalls() {
        return List.of(
                new Call("write with copies", x -> x.write(3, 0, -1)),
                new Call("write without copies", x -> x.write(1, 0, -1)),
                new Call("snapshot", SnapshotVolume::snapshot),
                new Call("drop", x -> x.drop(0)),
                new Call("writeSnapshot with a copy", x -> x.writeSnapshot(1, 3, 2, -1)),
                new Call("writeSnapshot into a copy", x -> x.writeSnapshot(1, 1, 2, -1)),
                new Call("rollback with copies", x -> x.rollback(0)),
                new Call("rollback without copies", x -> x.rollback(1)));
    }

    private static int writesOf(Call call) {
        SnapshotVolume x = writable();
        int before = x.writes();
        call.on(x);
        return x.writes() - before;
    }

    private void fuseLetsSoManyWritesBeDone() {
        check.sentence("A FUSE can be set to n: so many writes are done from then on; "
                + "when one more is to be done, it is not");
        for (Call call : writingCalls()) {
            int needed = writesOf(call);
            for (int n = 0; n <= needed; n++) {
                SnapshotVolume x = writable();
                int before = x.writes();
                x.fuse(n);
                String due = n < needed ? "UnsupportedOperationException" : "nothing";
                check.same(call.name() + " with fuse " + n, Check.thrownBy(() -> call.on(x)), due);
                check.same("writes of " + call.name() + " with fuse " + n, x.writes() - before, n);
                check.same("isDown after " + call.name() + " with fuse " + n, x.isDown(), n < needed);
            }
        }
    }

    private void cutBringsDownAtOnce() {
        check.sentence("the volume is DOWN at once, the call throws UnsupportedOperationException");
        for (Call call : writingCalls()) {
            SnapshotVolume x = writable();
            x.fuse(0);
            check.same("isDown before " + call.name(), x.isDown(), false);
            check.refuses(call.name(), Check.POWER, () -> call.on(x));
            check.same("isDown after " + call.name(), x.isDown(), true);
            check.refuses("read after " + call.name(), Check.POWER, () -> x.read(0, 0));
        }
    }

    private void cutLeavesNoFuse() {
        check.sentence("and there is no fuse any more");
        for (Call call : writingCalls()) {
            SnapshotVolume x = writable();
            x.fuse(writesOf(call) - 1);
            check.refuses(call.name() + " cut at its last write", Check.POWER, () -> call.on(x));
            x.recover();
            for (int k = 0; k < 60; k++) {
                int word = k;
                check.same("a write after recover", Check.thrownBy(() -> x.write(1, 0, word)), "nothing");
            }
        }
    }

    /** Of the eleven writes, three are whole calls, five a whole copy and three a part of one. */
    private void whatWasWrittenIsWritten() {
        check.sentence("What was written is written.");
        SnapshotVolume x = Volumes.numbered();
        x.fuse(11);
        x.write(5, 3, 700);
        x.snapshot();
        x.snapshot();
        check.refuses("the write that is cut", Check.POWER, () -> x.write(5, 3, 701));
        check.same("writes", x.writes(), 24 + 11);
        x.recover();
        check.same("the word written before", x.read(5, 3), 700);
        check.same("the snapshots taken before", x.places(), 3);
        check.same("the copy that was whole", x.copyOf(0, 5), 0);
        check.same("the copy that was not", x.copyOf(1, 5), -1);
        check.same("used", x.used(), 1);
    }

    private void recoverBringsUp() {
        check.sentence("recover() brings the volume up again.");
        for (Call call : writingCalls()) {
            for (int n = 0; n < writesOf(call); n++) {
                SnapshotVolume x = writable();
                x.fuse(n);
                Check.thrownBy(() -> call.on(x));
                x.recover();
                check.same("isDown after recover", x.isDown(), false);
                check.same(call.name() + " after recover", Check.thrownBy(() -> call.on(x)), "nothing");
            }
        }
    }

    /** Every place is taken, no copy block is free: place 0 has all copies, 1 of blocks 0 to 2, 2 none. */
    private static SnapshotVolume full() {
        SnapshotVolume x = Volumes.withCopies(9);
        x.snapshot();
        return x;
    }

    private static SnapshotVolume place2Empty() {
        return Volumes.withCopies(9);
    }

    private static Refusal refusal(
            String name, Class<? extends RuntimeException> due, Consumer<SnapshotVolume> call) {
        return new Refusal(name, due, PowerEdgeTest::full, call);
    }

    private static Refusal refusalOfEmptyPlace(String name, Consumer<SnapshotVolume> call) {
        return new Refusal(name, Check.NONE_THERE, PowerEdgeTest::place2Empty, call);
    }

    /** Each exception of each call, the power's left out. */
    private static List<Refusal> refusals() {
        return List.of(
                refusal("write to block 6", Check.ARGUMENT, x -> x.write(6, 0, 1)),
                refusal("write to word 4", Check.ARGUMENT, x -> x.write(0, 4, 1)),
                refusal("write without free copy blocks", Check.STATE, x -> x.write(0, 0, 1)),
                refusal("read of block -1", Check.ARGUMENT, x -> x.read(-1, 0)),
                refusal("read of word -1", Check.ARGUMENT, x -> x.read(1, -1)),
                refusal("snapshot without empty place", Check.STATE, SnapshotVolume::snapshot),
                refusal("drop of place 3", Check.NONE_THERE, x -> x.drop(3)),
                refusalOfEmptyPlace("drop of an empty place", x -> x.drop(2)),
                refusal("readSnapshot of place -1", Check.NONE_THERE, x -> x.readSnapshot(-1, 0, 0)),
                refusalOfEmptyPlace("readSnapshot of an empty place", x -> x.readSnapshot(2, 0, 0)),
                refusal("readSnapshot of block 6", Check.ARGUMENT, x -> x.readSnapshot(0, 6, 0)),
                refusal("readSnapshot of word 4", Check.ARGUMENT, x -> x.readSnapshot(0, 0, 4)),
                refusal("writeSnapshot to place 3", Check.NONE_THERE, x -> x.writeSnapshot(3, 0, 0, 1)),
                refusalOfEmptyPlace("writeSnapshot to an empty place", x -> x.writeSnapshot(2, 0, 0, 1)),
                refusal("writeSnapshot to block -1", Check.ARGUMENT, x -> x.writeSnapshot(0, -1, 0, 1)),
                refusal("writeSnapshot to word -1", Check.ARGUMENT, x -> x.writeSnapshot(0, 1, -1, 1)),
                refusal("writeSnapshot without free copy block", Check.STATE, x -> x.writeSnapshot(2, 0, 0, 1)),
                refusal("rollback to place 3", Check.NONE_THERE, x -> x.rollback(3)),
                refusalOfEmptyPlace("rollback to an empty place", x -> x.rollback(2)),
                refusal("rollback without free copy blocks", Check.STATE, x -> x.rollback(1)),
                refusal("recover while up", Check.STATE, SnapshotVolume::recover),
                refusal("copyOf of place -1", Check.NONE_THERE, x -> x.copyOf(-1, 0)),
                refusalOfEmptyPlace("copyOf of an empty place", x -> x.copyOf(2, 0)),
                refusal("copyOf of block 6", Check.ARGUMENT, x -> x.copyOf(0, 6)),
                refusal("changed of place 3", Check.NONE_THERE, x -> x.changed(3)),
                refusalOfEmptyPlace("changed of an empty place", x -> x.changed(2)));
    }

    private void refusedCallChangesNothing() {
        check.sentence("A call that throws anything else changes nothing.");
        for (Refusal refusal : refusals()) {
            check.refusesUnchanged(refusal.name(), refusal.due(), refusal.make(), refusal.call());
        }
    }

    /** A fuse of 0 must not blow, and one of 3 must still allow three writes. */
    private void refusedCallLeavesFuse() {
        check.sentence("A call that throws anything else changes nothing.");
        for (Refusal refusal : refusals()) {
            for (int n = 0; n <= 3; n += 3) {
                SnapshotVolume x = refusal.make().get();
                x.fuse(n);
                check.refuses(refusal.name(), refusal.due(), () -> refusal.call().accept(x));
                check.same("isDown after " + refusal.name(), x.isDown(), false);
                for (int k = 0; k < n; k++) {
                    check.same("a write that the fuse allows", x.writeSnapshot(0, 0, 0, k), false);
                }
                check.refuses("one write more", Check.POWER, () -> x.writeSnapshot(0, 0, 0, 9));
            }
        }
    }

    private void refusedRollbackLeavesRoll() {
        check.sentence("A call that throws anything else changes nothing.");
        for (int s = 0; s < 4; s++) {
            SnapshotVolume x = place2Empty();
            int place = s;
            check.same("rollback to " + s, Check.thrownBy(() -> x.rollback(place)),
                    s == 0 ? "IllegalStateException" : s == 1 ? "nothing" : "NoSuchElementException");
            int before = x.writes();
            Volumes.cut(x);
            check.same("recover after it", x.recover(), 0);
            check.same("writes of that recover", x.writes(), before);
        }
    }

    private static List<Call> callsThatNeedPower(int s, int b, int i) {
        return List.of(
                new Call("write", x -> x.write(b, i, 1)),
                new Call("read", x -> x.read(b, i)),
                new Call("snapshot", SnapshotVolume::snapshot),
                new Call("drop", x -> x.drop(s)),
                new Call("readSnapshot", x -> x.readSnapshot(s, b, i)),
                new Call("writeSnapshot", x -> x.writeSnapshot(s, b, i, 1)),
                new Call("rollback", x -> x.rollback(s)),
                new Call("used", SnapshotVolume::used),
                new Call("copyOf", x -> x.copyOf(s, b)),
                new Call("places", SnapshotVolume::places),
                new Call("changed", x -> x.changed(s)));
    }

    /** Right numbers, wrong ones, and a volume in which each other exception of each call fits too. */
    private void downIsLookedAtFirst() {
        check.sentence("Every call but recover, format, isDown, writes and fuse throws "
                + "UnsupportedOperationException, before anything else is looked at, when the volume is down.");
        List<SnapshotVolume> volumes = List.of(new SnapshotVolume(), writable(), full(), place2Empty());
        for (SnapshotVolume x : volumes) {
            Volumes.cut(x);
            int writes = x.writes();
            for (int n = -1; n <= 6; n++) {
                for (Call call : callsThatNeedPower(n, n, n)) {
                    check.refuses(call.name() + " with " + n, Check.POWER, () -> call.on(x));
                }
            }
            check.same("writes after all that", x.writes(), writes);
            check.same("isDown after all that", x.isDown(), true);
        }
    }

    private void someCallsAnswerWhileDown() {
        check.sentence("Every call but recover, format, isDown, writes and fuse");
        SnapshotVolume x = Volumes.cut(writable());
        check.same("isDown", x.isDown(), true);
        check.same("writes", x.writes(), 24 + 1 + 6 + 5 + 1 + 11);
        check.same("fuse", x.fuse(1), false);
        check.same("recover", x.recover(), 0);
        Volumes.cut(x);
        check.same("format", Check.thrownBy(x::format), "nothing");
        check.same("isDown after format", x.isDown(), false);
    }

    /** The face names NoSuchElement before IllegalArgument before IllegalState. */
    private void firstNamedIsThrown() {
        check.sentence("Otherwise, of several exceptions that fit, the one named first is thrown.");
        int[] wrong = {-1, 6, Integer.MIN_VALUE, Integer.MAX_VALUE};
        for (int n : wrong) {
            SnapshotVolume x = full();
            x.fuse(0);
            check.refuses("write, IllegalState fits too", Check.ARGUMENT, () -> x.write(0, n, 1));
            check.refuses("readSnapshot, b fits too", Check.NONE_THERE, () -> x.readSnapshot(n, n, 0));
            check.refuses("readSnapshot, i fits too", Check.NONE_THERE, () -> x.readSnapshot(n, 0, n));
            check.refuses("writeSnapshot, b fits too", Check.NONE_THERE, () -> x.writeSnapshot(n, n, 0, 1));
            check.refuses("writeSnapshot, i fits too", Check.NONE_THERE, () -> x.writeSnapshot(n, 0, n, 1));
            check.refuses("writeSnapshot, IllegalState fits too", Check.ARGUMENT, () -> x.writeSnapshot(2, 0, n, 1));
            check.refuses("copyOf, b fits too", Check.NONE_THERE, () -> x.copyOf(n, n));
            check.same("isDown after refusals", x.isDown(), false);
        }
        SnapshotVolume x = place2Empty();
        check.refuses("readSnapshot of an empty place", Check.NONE_THERE, () -> x.readSnapshot(2, 6, 4));
        check.refuses("writeSnapshot to an empty place", Check.NONE_THERE, () -> x.writeSnapshot(2, 6, 4, 1));
        check.refuses("copyOf of an empty place", Check.NONE_THERE, () -> x.copyOf(2, 6));
    }

    /** Exactly so many words can be written before the power goes. */
    private void allows(String what, SnapshotVolume x, int n) {
        for (int k = 0; k < n; k++) {
            int word = k;
            check.same(what + ": write " + k, Check.thrownBy(() -> x.write(0, 0, word)), "nothing");
        }
        check.refuses(what + ": one write more", Check.POWER, () -> x.write(0, 0, 9));
    }

    private void promise10ReplacesFuse() {
        check.sentence("Sets the fuse to n, in place of one set before");
        for (int first = 0; first < 4; first++) {
            for (int next = 0; next < 4; next++) {
                SnapshotVolume x = new SnapshotVolume();
                check.same("fuse " + first, x.fuse(first), true);
                check.same("fuse " + next, x.fuse(next), true);
                allows("fuse " + first + ", then " + next, x, next);
            }
        }
        SnapshotVolume x = new SnapshotVolume();
        x.fuse(3);
        x.write(0, 0, 1);
        x.write(0, 0, 2);
        check.same("fuse 3 anew", x.fuse(3), true);
        allows("fuse 3 set anew after two writes", x, 3);
        x.recover();
        check.same("the longest fuse", x.fuse(Integer.MAX_VALUE), true);
        check.same("a write with the longest fuse", x.write(0, 0, 1), 0);
        check.same("a fuse in place of the longest", x.fuse(1), true);
        allows("fuse 1 in place of the longest", x, 1);
    }

    private void promise10TakesFuseAway() {
        check.sentence("-1: there is none. True");
        for (int n = -1; n < 3; n++) {
            SnapshotVolume x = new SnapshotVolume();
            check.same("fuse " + n, x.fuse(n), true);
            check.same("fuse -1", x.fuse(-1), true);
            for (int k = 0; k < 50; k++) {
                check.same("write " + k + " without fuse", x.write(0, 0, k), 0);
            }
        }
    }

    private void promise10RefusesBelow() {
        check.sentence("false, changing nothing, when n is below -1");
        int[] below = {-2, -3, -100, Integer.MIN_VALUE + 1, Integer.MIN_VALUE};
        for (int n : below) {
            for (int set = 0; set < 3; set++) {
                SnapshotVolume x = new SnapshotVolume();
                x.fuse(set);
                check.same("fuse " + n, x.fuse(n), false);
                allows("fuse " + set + ", then " + n, x, set);
            }
            SnapshotVolume x = new SnapshotVolume();
            check.same("fuse " + n + " without one before", x.fuse(n), false);
            for (int k = 0; k < 50; k++) {
                check.same("write " + k + " after fuse " + n, x.write(0, 0, k), 0);
            }
        }
    }

    private void promise10RefusesWhileDown() {
        check.sentence("false, changing nothing, when n is below -1 or the volume is down.");
        int[] numbers = {-2, -1, 0, 1, 5, Integer.MAX_VALUE};
        for (int n : numbers) {
            SnapshotVolume x = Volumes.cut(Volumes.withSnapshots(1));
            check.same("fuse " + n + " while down", x.fuse(n), false);
            check.same("isDown after fuse " + n, x.isDown(), true);
            x.recover();
            check.same("places after recover", x.places(), 1);
            for (int k = 0; k < 20; k++) {
                int word = k;
                check.same("a write after recover", Check.thrownBy(() -> x.write(0, 0, word)), "nothing");
            }
        }
    }

    private void promise11FinishesWhatRollSays() {
        check.sentence("Brings the volume up, if it is down, and finishes what ROLL says: "
                + "the blocks that merging wrote");
        Call rollback = new Call("rollback", x -> x.rollback(0));
        SnapshotVolume whole = writable();
        whole.rollback(0);
        String put = Check.contentOf(whole);
        for (int n = 2; n < writesOf(rollback); n++) {
            SnapshotVolume x = writable();
            x.fuse(n);
            check.refuses("rollback with fuse " + n, Check.POWER, () -> x.rollback(0));
            check.same("recover from " + n, x.recover(), n < 12 ? 3 : n < 17 ? 2 : n < 27 ? 1 : 0);
            check.same("isDown after recover from " + n, x.isDown(), false);
            check.same("words after recover from " + n, Check.contentOf(x), put);
        }
    }

    private void promise11AnswersZeroWithoutRoll() {
        check.sentence("0 when ROLL is 0.");
        for (Call call : writingCalls()) {
            int needed = call.name().startsWith("rollback") ? 2 : writesOf(call);
            for (int n = 0; n < needed; n++) {
                SnapshotVolume x = writable();
                String before = Check.contentOf(x);
                x.fuse(n);
                check.refuses(call.name() + " with fuse " + n, Check.POWER, () -> call.on(x));
                int writes = x.writes();
                check.same("recover after " + call.name(), x.recover(), 0);
                check.same("writes of recover", x.writes(), writes);
                check.same("words after recover", Check.contentOf(x), before);
            }
        }
    }

    private void promise11RefusesWhileUp() {
        check.sentence("IllegalStateException when the volume is up.");
        SnapshotVolume x = new SnapshotVolume();
        check.refuses("recover of a new volume", Check.STATE, x::recover);
        x.fuse(0);
        check.refuses("recover with the fuse at 0", Check.STATE, x::recover);
        check.refuses("snapshot without power", Check.POWER, x::snapshot);
        check.same("recover", x.recover(), 0);
        check.refuses("recover once more", Check.STATE, x::recover);
        Volumes.cut(x);
        x.format();
        check.refuses("recover after format", Check.STATE, x::recover);
        x.snapshot();
        x.write(0, 0, 1);
        x.rollback(0);
        check.refuses("recover after rollback", Check.STATE, x::recover);
        check.same("writes after refusals", x.writes(), 1 + 6 + 8);
    }

    private void promise12TellsDown() {
        check.sentence("Whether the volume is down.");
        SnapshotVolume x = new SnapshotVolume();
        check.same("isDown at first", x.isDown(), false);
        x.fuse(1);
        x.write(0, 0, 1);
        check.same("isDown with no write left", x.isDown(), false);
        check.refuses("one write more", Check.POWER, () -> x.write(0, 0, 2));
        check.same("isDown after the cut", x.isDown(), true);
        check.refuses("read while down", Check.POWER, () -> x.read(0, 0));
        x.fuse(-1);
        check.same("isDown after calls that do not help", x.isDown(), true);
        x.recover();
        check.same("isDown after recover", x.isDown(), false);
        Volumes.cut(x);
        check.same("isDown after another cut", x.isDown(), true);
        x.format();
        check.same("isDown after format", x.isDown(), false);
        check.refuses("write to block 6", Check.ARGUMENT, () -> x.write(6, 0, 1));
        check.same("isDown after another exception", x.isDown(), false);
    }

    private void promise13CountsSinceFormat() {
        check.sentence("How many writes were done since the volume came to be or was formatted.");
        SnapshotVolume x = new SnapshotVolume();
        check.same("writes at first", x.writes(), 0);
        x.fuse(3);
        check.refuses("read of block 6", Check.ARGUMENT, () -> x.read(6, 0));
        check.same("writes after calls that write nothing", x.writes(), 0);
        x.snapshot();
        check.refuses("write cut in its copy", Check.POWER, () -> x.write(0, 0, 1));
        check.same("writes while down, without the one not done", x.writes(), 3);
        x.recover();
        check.same("writes after recover", x.writes(), 3);
        x.write(0, 0, 1);
        x.fuse(3);
        check.refuses("rollback cut in its block", Check.POWER, () -> x.rollback(0));
        check.same("writes of the cut rollback", x.writes(), 3 + 6 + 3);
        x.recover();
        check.same("writes with those of recover", x.writes(), 12 + 6);
        x.format();
        check.same("writes after format", x.writes(), 0);
        x.write(0, 0, 0);
        check.same("a write of the word that is there", x.writes(), 1);
        Volumes.cut(x);
        x.format();
        check.same("writes after a format while down", x.writes(), 0);
    }
}
