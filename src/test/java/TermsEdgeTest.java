/** The boundary cases that the document's terms name: places, stamps, tags, copies, merging. */
public final class TermsEdgeTest {
    private final Check check = new Check();

    public static void main(String[] args) {
        TermsEdgeTest test = new TermsEdgeTest();
        test.diskKeepsEveryWord();
        test.eachWriteCountsOne();
        test.placeWithoutStampIsEmpty();
        test.stampsAreGivenOnce();
        test.stampsAreGivenOnceOverCuts();
        test.tagsAreNoneAtFirst();
        test.usedOnlyWithStampNow();
        test.copyIsOfOneSnapshotAndBlock();
        test.snapshotWordIsCopyElseVolume();
        test.lowestFreeIsTaken();
        test.copyIsWholeOrNotThere();
        test.writeCopiesByRisingPlaces();
        test.writeCopiesForThoseWithout();
        test.snapshotWritesOneStamp();
        test.dropWritesOneStamp();
        test.writeSnapshotIntoCopy();
        test.writeSnapshotMakesCopyWithNewWord();
        test.rollbackBeginsWithMarkAndRoll();
        test.mergingTakesBlocksWithCopies();
        test.mergingCopiesForOthersFirst();
        test.rollbackEndsWithRoll();
        test.recoverGoesOnFromMark();
        test.recoverWithoutRollWritesNothing();
        test.check.end();
    }

    /** Every word that the disk has room for is another one, before and after the power goes. */
    private void diskKeepsEveryWord() {
        check.sentence("THE DISK keeps, whatever happens: 6 BLOCKS of 4 words (ints); "
                + "9 COPY BLOCKS 0 .. 8 of 4 words, each with a TAG; "
                + "a STAMP for each of the snapshot places 0 .. 2");
        SnapshotVolume x = Volumes.withSnapshots(3);
        for (int k = 0; k < 36; k++) {
            x.writeSnapshot(k / 12, k / 4 % 3, k % 4, -k - 1);
        }
        Volumes.cut(x);
        x.recover();
        check.same("places", x.places(), 7);
        for (int k = 0; k < 24; k++) {
            check.same("word " + k + " of the volume", x.read(k / 4, k % 4), 10 * (k / 4) + k % 4 + 1);
        }
        for (int k = 0; k < 36; k++) {
            check.same("word " + k + " of the copies", x.readSnapshot(k / 12, k / 4 % 3, k % 4), -k - 1);
            check.same("its copy block", x.copyOf(k / 12, k / 4 % 3), k / 4);
        }
    }

    /** The last of them write what is there already: they count all the same. */
    private void eachWriteCountsOne() {
        check.sentence("A WRITE changes one word of a block or copy block, a tag, a stamp, ROLL or MARK; "
                + "each counts 1.");
        SnapshotVolume x = new SnapshotVolume();
        x.write(0, 0, 1);
        check.same("a word of a block", x.writes(), 1);
        x.snapshot();
        check.same("a stamp", x.writes(), 2);
        x.rollback(0);
        check.same("MARK, ROLL and ROLL again", x.writes(), 5);
        x.writeSnapshot(0, 0, 0, 2);
        check.same("four words of a copy block and its tag", x.writes(), 10);
        x.writeSnapshot(0, 0, 0, 3);
        check.same("a word of a copy block", x.writes(), 11);
        x.rollback(0);
        check.same("MARK, ROLL, four words of a block, MARK and ROLL", x.writes(), 19);
        x.drop(0);
        check.same("a stamp that becomes 0", x.writes(), 20);
        x.write(0, 0, 3);
        check.same("the word that is there", x.writes(), 21);
        x.snapshot();
        x.writeSnapshot(0, 5, 3, 0);
        x.writeSnapshot(0, 5, 3, 0);
        check.same("a stamp, a copy and its word that is there", x.writes(), 28);
    }

    private void placeWithoutStampIsEmpty() {
        check.sentence("A place whose stamp is 0 is empty.");
        SnapshotVolume x = Volumes.numbered();
        emptyPlaces("at first", x, 0, 1, 2);
        for (int s = 0; s < 3; s++) {
            check.same("the empty place that is taken", x.snapshot(), s);
        }
        check.refuses("snapshot with no empty place", Check.STATE, x::snapshot);
        x.drop(1);
        emptyPlaces("after drop", x, 1);
        check.same("the place that was dropped", x.snapshot(), 1);
        x.format();
        emptyPlaces("after format", x, 0, 1, 2);
    }

    private void emptyPlaces(String when, SnapshotVolume x, int... places) {
        for (int s : places) {
            check.refuses("changed of place " + s + " " + when, Check.NONE_THERE, () -> x.changed(s));
            check.same("bit of place " + s + " " + when, x.places() >> s & 1, 0);
        }
    }

    /** A stamp that was given twice would bring the copies of the snapshot before back. */
    private void stampsAreGivenOnce() {
        check.sentence("A stamp above 0 was given to no place before (the first is 1, each next one 1 more; "
                + "format() starts anew).");
        SnapshotVolume x = new SnapshotVolume();
        for (int round = 0; round < 28; round++) {
            int s = x.snapshot();
            check.same("copies of the new snapshot in round " + round, copiesOf(x, s), 0);
            x.write(round % 6, 0, round + 1);
            check.same("copies after the write in round " + round, copiesOf(x, s), 1);
            if (round % 7 == 3) {
                check.same("used before a format", x.used() > 0, true);
                x.format();
            } else if (round % 3 != 1) {
                x.drop(s);
            } else {
                dropAll(x);
            }
        }
    }

    private static int copiesOf(SnapshotVolume x, int s) {
        int count = 0;
        for (int b = 0; b < 6; b++) {
            count += x.copyOf(s, b) == -1 ? 0 : 1;
        }
        return count;
    }

    private static void dropAll(SnapshotVolume x) {
        for (int s = 0; s < 3; s++) {
            if ((x.places() >> s & 1) == 1) {
                x.drop(s);
            }
        }
    }

    private void stampsAreGivenOnceOverCuts() {
        check.sentence("A stamp above 0 was given to no place before");
        SnapshotVolume x = Volumes.numbered();
        for (int round = 0; round < 8; round++) {
            check.same("place in round " + round, x.snapshot(), 0);
            check.same("copies in round " + round, x.used(), 0);
            x.write(round % 6, 0, -round);
            x.drop(0);
            x.fuse(0);
            check.refuses("snapshot without power in round " + round, Check.POWER, x::snapshot);
            x.recover();
            check.same("places after the cut in round " + round, x.places(), 0);
        }
    }

    /** NONE is no stamp: while places are empty, no copy block belongs to one of them. */
    private void tagsAreNoneAtFirst() {
        check.sentence("A tag is NONE or says a stamp and a block.");
        SnapshotVolume x = new SnapshotVolume();
        check.same("used with all places empty", x.used(), 0);
        x.snapshot();
        check.same("used with places 1 and 2 empty", x.used(), 0);
        for (int b = 0; b < 6; b++) {
            check.same("copy of block " + b, x.copyOf(0, b), -1);
        }
    }

    private void usedOnlyWithStampNow() {
        check.sentence("A copy block is USED when its tag says the stamp that some place has now; "
                + "it is then that snapshot's COPY of the block; otherwise it is free.");
        SnapshotVolume x = Volumes.withCopies(9);
        check.same("used with nine copies", x.used(), 9);
        x.drop(0);
        check.same("used without place 0", x.used(), 3);
        check.same("the place again", x.snapshot(), 0);
        check.same("used with a new stamp in place 0", x.used(), 3);
        for (int k = 0; k < 6; k++) {
            check.same("a free copy block is taken", x.writeSnapshot(0, k, 0, k), true);
            check.same("its number", x.copyOf(0, k), k);
        }
        check.same("used with nine copies again", x.used(), 9);
        x.drop(0);
        x.drop(1);
        check.same("used with all places empty", x.used(), 0);
    }

    private void copyIsOfOneSnapshotAndBlock() {
        check.sentence("it is then that snapshot's COPY of the block");
        SnapshotVolume x = Volumes.withSnapshots(3);
        x.writeSnapshot(1, 5, 0, 500);
        x.writeSnapshot(2, 0, 0, 600);
        for (int s = 0; s < 3; s++) {
            for (int b = 0; b < 6; b++) {
                int due = s == 1 && b == 5 ? 0 : s == 2 && b == 0 ? 1 : -1;
                check.same("copy of block " + b + " for place " + s, x.copyOf(s, b), due);
            }
        }
    }

    private void snapshotWordIsCopyElseVolume() {
        check.sentence("A snapshot's word i of block b is that of its copy of b, if it has one, else the volume's.");
        SnapshotVolume x = Volumes.withSnapshots(2);
        x.writeSnapshot(0, 0, 3, -7);
        x.writeSnapshot(0, 5, 0, -8);
        for (int k = 0; k < 24; k++) {
            int volumes = 10 * (k / 4) + k % 4 + 1;
            int own = k == 3 ? -7 : k == 20 ? -8 : volumes;
            check.same("word " + k + " of the one with copies", x.readSnapshot(0, k / 4, k % 4), own);
            check.same("word " + k + " of the one without", x.readSnapshot(1, k / 4, k % 4), volumes);
        }
    }

    private void lowestFreeIsTaken() {
        check.sentence("the free copy block with the lowest number is taken");
        SnapshotVolume x = Volumes.withSnapshots(3);
        for (int k = 0; k < 9; k++) {
            x.writeSnapshot(k % 3, k / 3, 0, 70 + k);
            check.same("copy number " + k, x.copyOf(k % 3, k / 3), k);
        }
        x.drop(1);
        x.writeSnapshot(2, 5, 0, 1);
        check.same("the lowest of 1, 4 and 7", x.copyOf(2, 5), 1);
        x.drop(0);
        x.writeSnapshot(2, 4, 0, 1);
        check.same("the lowest of 0, 3, 4, 6 and 7", x.copyOf(2, 4), 0);
        x.writeSnapshot(2, 3, 0, 1);
        check.same("the lowest of 3, 4, 6 and 7", x.copyOf(2, 3), 3);
    }

    private void copyIsWholeOrNotThere() {
        check.sentence("the four words of the volume's block b are written into it (4 writes), "
                + "then its tag says the snapshot's stamp and b (1 write).");
        for (int cut = 0; cut <= 6; cut++) {
            SnapshotVolume x = Volumes.withSnapshots(1);
            x.fuse(cut);
            String due = cut < 6 ? "UnsupportedOperationException" : "nothing";
            check.same("write with fuse " + cut, Check.thrownBy(() -> x.write(5, 3, -1)), due);
            Check.thrownBy(x::recover);
            check.same("copy after " + cut + " writes", x.copyOf(0, 5), cut < 5 ? -1 : 0);
            check.same("used after " + cut + " writes", x.used(), cut < 5 ? 0 : 1);
            check.same("volume's word after " + cut + " writes", x.read(5, 3), cut < 6 ? 54 : -1);
            for (int i = 0; i < 4; i++) {
                check.same("snapshot's word after " + cut + " writes", x.readSnapshot(0, 5, i), 51 + i);
            }
        }
    }

    private void writeCopiesByRisingPlaces() {
        check.sentence("write: for each snapshot that has no copy of the block, by rising places, it is copied; "
                + "then the word (1).");
        for (int cut = 0; cut < 16; cut++) {
            SnapshotVolume x = Volumes.withSnapshots(3);
            x.fuse(cut);
            check.refuses("write cut at " + cut, Check.POWER, () -> x.write(0, 0, -1));
            x.recover();
            for (int s = 0; s < 3; s++) {
                check.same("copy of place " + s + " at " + cut, x.copyOf(s, 0), cut / 5 > s ? s : -1);
            }
            check.same("the word at " + cut, x.read(0, 0), 1);
            check.same("copies that the next write makes", x.write(0, 0, -1), 3 - cut / 5);
        }
    }

    private void writeCopiesForThoseWithout() {
        check.sentence("write: for each snapshot that has no copy of the block");
        for (int having = 0; having < 8; having++) {
            SnapshotVolume x = Volumes.withSnapshots(3);
            for (int s = 0; s < 3; s++) {
                if ((having >> s & 1) == 1) {
                    x.writeSnapshot(s, 2, 1, 90 + s);
                }
            }
            int before = x.writes();
            int due = 3 - Integer.bitCount(having);
            check.same("copies with " + having, x.write(2, 1, -1), due);
            check.same("writes with " + having, x.writes() - before, 5 * due + 1);
            for (int s = 0; s < 3; s++) {
                int word = (having >> s & 1) == 1 ? 90 + s : 22;
                check.same("word of place " + s + " with " + having, x.readSnapshot(s, 2, 1), word);
            }
        }
    }

    private void snapshotWritesOneStamp() {
        check.sentence("snapshot: the stamp of the empty place with the lowest number (1).");
        for (int taken = 0; taken < 7; taken++) {
            SnapshotVolume x = Volumes.withSnapshots(3);
            for (int s = 0; s < 3; s++) {
                if ((taken >> s & 1) == 0) {
                    x.drop(s);
                }
            }
            int before = x.writes();
            check.same("place beside " + taken, x.snapshot(), Integer.numberOfTrailingZeros(~taken));
            check.same("writes of snapshot", x.writes() - before, 1);
        }
    }

    private void dropWritesOneStamp() {
        check.sentence("drop: the place's stamp becomes 0 (1).");
        for (int s = 0; s < 3; s++) {
            SnapshotVolume x = Volumes.withSnapshots(3);
            x.write(0, 0, 5);
            int before = x.writes();
            x.drop(s);
            check.same("writes of drop " + s, x.writes() - before, 1);
            check.same("places after drop " + s, x.places(), 7 - (1 << s));
        }
    }

    private void writeSnapshotIntoCopy() {
        check.sentence("writeSnapshot: if the snapshot has a copy of the block, the word in it (1)");
        for (int i = 0; i < 4; i++) {
            SnapshotVolume x = Volumes.withSnapshots(2);
            x.write(5, 0, -1);
            int before = x.writes();
            check.same("a copy made", x.writeSnapshot(1, 5, i, 88), false);
            check.same("writes", x.writes() - before, 1);
            for (int k = 0; k < 4; k++) {
                check.same("its word " + k, x.readSnapshot(1, 5, k), k == i ? 88 : 51 + k);
                check.same("the other's word " + k, x.readSnapshot(0, 5, k), 51 + k);
                check.same("the volume's word " + k, x.read(5, k), k == 0 ? -1 : 51 + k);
            }
        }
    }

    private void writeSnapshotMakesCopyWithNewWord() {
        check.sentence("else the block is copied for it, word i being the new one in place of the volume's "
                + "when it is written (4, 1).");
        for (int i = 0; i < 4; i++) {
            for (int cut = 0; cut <= 5; cut++) {
                SnapshotVolume x = Volumes.withSnapshots(2);
                int word = 80 + i;
                int at = i;
                x.fuse(cut);
                Check.thrownBy(() -> x.writeSnapshot(1, 3, at, word));
                check.same("isDown with fuse " + cut, x.isDown(), cut < 5);
                Check.thrownBy(x::recover);
                check.same("copy with fuse " + cut, x.copyOf(1, 3), cut < 5 ? -1 : 0);
                for (int k = 0; k < 4; k++) {
                    int own = cut == 5 && k == i ? word : 31 + k;
                    check.same("its word " + k + " with fuse " + cut, x.readSnapshot(1, 3, k), own);
                    check.same("the volume's word " + k, x.read(3, k), 31 + k);
                }
                check.same("the other's copy", x.copyOf(0, 3), -1);
            }
        }
    }

    /** MARK is 6 from the rollback before, so that a merging that did not begin anew would do nothing. */
    private void rollbackBeginsWithMarkAndRoll() {
        check.sentence("rollback to s: MARK becomes 0 (1), ROLL becomes 1 + s (1)");
        for (int cut = 0; cut <= 2; cut++) {
            SnapshotVolume x = Volumes.withSnapshots(2);
            x.writeSnapshot(1, 0, 0, 7);
            x.writeSnapshot(1, 5, 0, 8);
            x.rollback(1);
            x.write(0, 0, -1);
            x.write(5, 0, -2);
            int before = x.writes();
            x.fuse(cut);
            check.refuses("rollback cut at " + cut, Check.POWER, () -> x.rollback(1));
            check.same("recover from " + cut, x.recover(), cut < 2 ? 0 : 2);
            check.same("writes from " + cut, x.writes() - before, cut < 2 ? cut : 2 + 10 + 1);
            check.same("first block from " + cut, x.read(0, 0), cut < 2 ? -1 : 7);
            check.same("last block from " + cut, x.read(5, 0), cut < 2 ? -2 : 8);
        }
    }

    private void mergingTakesBlocksWithCopies() {
        check.sentence("MERGING: for each block b from MARK on of which s has a copy");
        for (int blocks = 0; blocks < 64; blocks++) {
            SnapshotVolume x = Volumes.withSnapshots(1);
            for (int b = 0; b < 6; b++) {
                if ((blocks >> b & 1) == 1) {
                    x.writeSnapshot(0, b, 3, 100 + b);
                }
            }
            int before = x.writes();
            int due = Integer.bitCount(blocks);
            check.same("rollback over " + blocks, x.rollback(0), due);
            check.same("writes over " + blocks, x.writes() - before, 3 + 5 * due);
            for (int b = 0; b < 6; b++) {
                int word = (blocks >> b & 1) == 1 ? 100 + b : 10 * b + 4;
                check.same("word of block " + b + " over " + blocks, x.read(b, 3), word);
            }
        }
    }

    /** Behind MARK and ROLL come five writes for place 0, five for place 2, the block's four and MARK. */
    private void mergingCopiesForOthersFirst() {
        check.sentence("for each other snapshot that has no copy of b, by rising places, it is copied; "
                + "then the four words of s's copy are written into the volume's block b (4); "
                + "then MARK becomes b + 1 (1).");
        int[] left = {16, 16, 16, 16, 16, 11, 11, 11, 11, 11, 6, 6, 6, 6, 6, 1};
        for (int k = 0; k < left.length; k++) {
            SnapshotVolume x = Volumes.withSnapshots(3);
            x.writeSnapshot(1, 4, 2, 77);
            x.fuse(2 + k);
            check.refuses("rollback cut at " + (2 + k), Check.POWER, () -> x.rollback(1));
            int before = x.writes();
            check.same("recover from " + (2 + k), x.recover(), k < 15 ? 1 : 0);
            check.same("writes of recover from " + (2 + k), x.writes() - before, left[k]);
            check.same("copy of place 0", x.copyOf(0, 4), 1);
            check.same("copy of place 2", x.copyOf(2, 4), 2);
            for (int i = 0; i < 4; i++) {
                check.same("volume's word " + i, x.read(4, i), i == 2 ? 77 : 41 + i);
                check.same("word " + i + " of place 0", x.readSnapshot(0, 4, i), 41 + i);
                check.same("word " + i + " of place 2", x.readSnapshot(2, 4, i), 41 + i);
            }
        }
    }

    private void rollbackEndsWithRoll() {
        check.sentence("In the end ROLL becomes 0 (1).");
        SnapshotVolume x = Volumes.withSnapshots(1);
        x.write(5, 0, -1);
        x.fuse(7);
        check.refuses("rollback cut before its last write", Check.POWER, () -> x.rollback(0));
        int before = x.writes();
        check.same("recover", x.recover(), 0);
        check.same("writes of recover", x.writes() - before, 1);
        Volumes.cut(x);
        check.same("recover once ROLL is 0", x.recover(), 0);
        check.same("writes of it", x.writes() - before, 1);
        x.fuse(8);
        check.same("rollback with just the fuse it needs", x.rollback(0), 1);
        check.same("isDown", x.isDown(), false);
    }

    private void recoverGoesOnFromMark() {
        check.sentence("recover: if ROLL is not 0, MERGING goes on for s = ROLL - 1, from what MARK is, "
                + "and ends as there.");
        for (int s = 0; s < 3; s++) {
            for (int done = 0; done <= 3; done++) {
                SnapshotVolume x = Volumes.withSnapshots(s + 1);
                for (int other = 0; other < s; other++) {
                    x.drop(other);
                }
                x.writeSnapshot(s, 0, 0, 200);
                x.writeSnapshot(s, 3, 0, 203);
                x.writeSnapshot(s, 5, 0, 205);
                x.fuse(2 + 5 * done);
                int place = s;
                check.refuses("rollback to " + s, Check.POWER, () -> x.rollback(place));
                int before = x.writes();
                check.same("recover behind " + done + " blocks", x.recover(), 3 - done);
                check.same("writes of it", x.writes() - before, 5 * (3 - done) + 1);
                check.same("changed after it", x.changed(s), 0);
                check.same("words after it", x.read(0, 0) + x.read(3, 0) + x.read(5, 0), 608);
            }
        }
    }

    private void recoverWithoutRollWritesNothing() {
        check.sentence("recover: if ROLL is not 0");
        for (int seed = 0; seed < 40; seed++) {
            SnapshotVolume x = Volumes.lived(seed);
            String before = Check.stateOf(x);
            Volumes.cut(x);
            check.same("recover with ROLL 0", x.recover(), 0);
            check.same("the state after it", Check.stateOf(x), before);
        }
    }
}
