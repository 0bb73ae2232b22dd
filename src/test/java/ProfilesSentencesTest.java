import java.util.NoSuchElementException;

/** Part 5 and the promises 33 to 38, sentence by sentence: profiles. */
final class ProfilesSentencesTest {
    private static final Class<IllegalArgumentException> ARGUMENT = IllegalArgumentException.class;
    private static final Class<NoSuchElementException> NONE = NoSuchElementException.class;
    private static final int[] FAR = {-2, 9, Integer.MIN_VALUE, Integer.MAX_VALUE};
    private static final String NOT_APART = "Throws `UnsupportedOperationException` if the old image is not apart without a fault";
    /** A row of ten blocks that go to the next one by both slots. */
    private static final String LADDER = " z1,0 L0 z1,1 L1 z1,2 L2 z1,3 L3 z1,4 L4 z1,5 L5 z1,6 L6 z1,7 L7 z1,8 L8 z1,9 L9";
    private static final String NO_BLOCK = "Throws `IndexOutOfBoundsException` if there is no such block, also one that was taken away";
    private static final String NO_SLOT = "Throws `NoSuchElementException` if there is no such slot, or way in";

    public static void main(String[] args) {
        Sentences.openPart(5);
        Sentences.openPromises(33, 38);
        having();
        trainedAltered();
        slotsGone();
        waysIn();
        events();
        flows();
        leastRows();
        weights();
        promiseTrain();
        promiseCount();
        promiseCounted();
        promiseLetFlow();
        promiseFlow();
        promiseWeight();
        Sentences.close("ProfilesSentencesTest");
    }

    private static void dueTrained(String text, int period, String want, int... fed) {
        Blockloom loom = Looms.apart(text);
        for (int number : fed) loom.feed(number);
        int events = loom.train(period);
        Dues.due("trained by " + period + " " + text, want, events + ": " + Looms.counts(loom, false));
    }

    /** Sets the counts of slots by blocks, and then of ways in. */
    private static Blockloom counted(String text, int... counts) {
        Blockloom loom = Looms.apart(text);
        int index = 0;
        for (int block = 0; block < loom.blocks(); block++) {
            for (int slot = 0; slot < loom.block(block, 's'); slot++) loom.count(block, slot, counts[index++]);
        }
        for (int block = 0; block < loom.blocks(); block++) {
            if (Looms.hasWayIn(loom, block)) loom.count(block, -1, counts[index++]);
        }
        return loom;
    }

    private static void dueFlow(String text, int changed, String flows, int... counts) {
        Blockloom loom = counted(text, counts);
        Dues.due("changed of " + text, changed, loom.letFlow(0));
        Dues.due("flows of " + text, flows, Looms.counts(loom, true));
        Dues.due("sound", true, loom.isSound());
    }

    private static void having() {
        Sentences.part(5, "Each slot has a count and a flow, as has the way in, from outside, of each first block, and of each block at "
            + "which a guard of the old image is;", () -> {
                Blockloom loom = Looms.apart("F L0 p1 L1 z1,2 h L2 w1,0 L3 r G0,1,3 T0,0 T0,1 F p1 j0 L0 t1");
                Dues.due("counts", "0/0; 0 0; 0; 0 0 0; 0/0; 0/0; 0", Looms.counts(loom, false));
                Dues.due("flows", "0/0; 0 0; 0; 0 0 0; 0/0; 0/0; 0", Looms.counts(loom, true));
                loom.count(4, -1, 3);
                loom.drop();
                Dues.due("the guard is of the old image", 3, loom.counted(4, -1));
                Dues.due("first blocks of more functions", "0/0; 0/0", Looms.counts(Looms.withoutPiece(), false));
            });
        Sentences.part(5, "all 0 as the image is taken apart.", () -> {
            Blockloom loom = Looms.full();
            Dues.due("some are not 0", true, Looms.counts(loom, false).matches(".*[1-9].*"));
            Dues.due("some do flow", true, Looms.counts(loom, true).matches(".*[1-9].*"));
            loom.apart();
            Dues.due("counts are 0", false, Looms.counts(loom, false).matches(".*[1-9].*"));
            Dues.due("flows are 0", false, Looms.counts(loom, true).matches(".*[1-9].*"));
        });
    }

    private static void trainedAltered() {
        String words = "To train runs the old image, blocks and slots being as it was taken apart, also such that were taken away or go "
            + "elsewhere since:";
        Sentences.part(5, words, () -> {
            String text = "F d1 z1,0 c1 c2 h L0 j1 L1 p2 h F p1 r F p1 r";
            for (int number = 0; number < 2; number++) {
                Blockloom before = Looms.apart(text);
                Blockloom behind = Looms.apart(text);
                before.feed(number);
                behind.feed(number);
                int events = before.train(1);
                for (Blockloom loom : new Blockloom[] {before, behind}) {
                    loom.thread();
                    loom.drop();
                    loom.fold();
                }
                Dues.due("altered", "0@0 d>c1 3 1; 1@4 cc>h -1; 3@14 p>h -1; 4@16 p>r -1", Looms.blocks(behind));
                Dues.due("as many events", events, behind.train(1));
                Dues.due("the same counts", before.checksum(), behind.checksum());
                Dues.due("as they are told", number == 0 ? "1/1 0; 0; 1; 0/0" : "1/0 1; 1; 0; 1/1", Looms.counts(behind, false));
            }
            Blockloom folded = Looms.takenAway();
            folded.make(1, false);
            folded.poke(0, 200);
            folded.poke(0, 41);
            folded.apart();
            Dues.due("the old one is run", 2, folded.train(1));
        });
    }

    private static void slotsGone() {
        Sentences.part(5, "each time that a slot is gone, as the last operation of its block is done,", () -> {
            dueTrained("F d1 z1,0 p1 h L0 h", 1, "3: 1/1 0; 0; 1", 0);
            dueTrained("F d1 z1,0 p1 h L0 h", 1, "3: 1/0 1; 1; 0", -1);
            dueTrained("F d1 y1,0 p1 h L0 h", 1, "3: 1/1 0; 1; 0", 0);
            dueTrained("F d1 y1,0 p1 h L0 h", 1, "3: 1/0 1; 0; 1", -1);
            dueTrained("F p1 L0 p2 h j0", 1, "3: 1/1; 1; 0");
            dueTrained("F p1 n L0 n h j0", 1, "3: 1/1; 1; 0");
            dueTrained("F j0 L0 r", 1, "3: 1/1; 1");
            dueTrained("F s0,1 s1,1 j0 L0 n L1 r j1", 1, "4: 1/1; 1; 1; 0");
            Blockloom loom = Looms.apart("F s0,1 s1,1 j0 L1 r L0 p0 j1");
            loom.make(1, false);
            loom.adopt();
            loom.apart();
            Dues.due("short jumps", 4, loom.train(1));
            Dues.due("counts of short jumps", "1/1; 1; 1", Looms.counts(loom, false));
            dueTrained("F z1,0 L0 r", 1, "3: 1/1 0; 1");
            String text = "F d1 w1,0 h L0 r L1 r T0,0 T0,1 T0,0";
            dueTrained(text, 1, "3: 1/1 0 0 0; 0; 1; 0", 0);
            dueTrained(text, 1, "3: 1/0 1 0 0; 0; 0; 1", 1);
            dueTrained(text, 1, "3: 1/0 0 1 0; 0; 1; 0", 2);
            for (int out : new int[] {3, -1, Integer.MIN_VALUE, Integer.MAX_VALUE}) dueTrained(text, 1, "3: 1/0 0 0 1; 1; 0; 0", out);
            dueTrained("F s1,9 f1 h", 1, "1: 1/0");
            dueTrained("F L0 p1 j0", 1, "1001: 1/1000");
            dueTrained("F L0 j0", 1, "2: 1/1");
        });
        Sentences.part(5, "or a call at its end comes back,", () -> {
            dueTrained("F c1 L0 h j0 F r", 1, "5: 1/1; 1; 0; 1/1");
            dueTrained("F c1 L0 h j0 F h", 1, "3: 1/0; 0; 0; 1/1");
            dueTrained("F s1,1 f1 L0 h j0 F r", 1, "5: 1/1; 1; 0; 1/1");
            dueTrained("F c1 p1 h F r", 1, "4: 1/1; 1/1");
            dueTrained("F c1 n L0 h j0 F r", 1, "5: 1/1; 1; 0; 1/1");
            dueTrained("F L0 c1 L1 h L2 h G0,1,2 F t1", 1, "5: 1/0; 0; 1/1; 1/1");
            dueTrained("F c0 L0 h j0", 1, "13: 13/0; 0; 0");
        });
    }

    private static void waysIn() {
        Sentences.part(5, "or a way in is, by the begin, a call or what is thrown,", () -> {
            dueTrained("F h", 9, "2: 9/0");
            dueTrained("F c1 s1,1 f1 h F r", 1, "6: 1/1; 2/2");
            dueTrained("F d1 y1,0 c0 h L0 h", 1, "5: 2/1 1; 0; 1", 0, 5);
            dueTrained("F L0 t1 L1 h G0,1,1", 1, "4: 1/1; 1/1");
            dueTrained("F j1 L0 t1 L1 j0 L2 p0 h G0,1,2", 1, "6: 1/1; 1; 1; 1/1");
            dueTrained("F j0 L0 h L1 G0,1,0", 1, "3: 1/1; 0/1");
        });
        Sentences.part(5, "A 't' goes its slot also as it is thrown.", () -> {
            dueTrained("F t1", 1, "2: 1/1");
            dueTrained("F c1 h F c2 r F t1", 1, "4: 1/0; 1/0; 1/1");
            dueTrained("F L0 c1 h L1 L2 r G0,1,2 F t1", 1, "5: 1/0; 1/1; 1/1");
        });
    }

    private static void events() {
        Sentences.part(5, "is an event, from 0 on;", () -> {
            dueTrained("F h", 2, "2: 2/0");
            Blockloom loom = Looms.apart("F h");
            loom.train(2);
            loom.train(2);
            Dues.due("each time from 0 on", "4/0", Looms.counts(loom, false));
        });
        Sentences.part(5, "each event that is divided by the period adds the period to its count,", () -> {
            String text = "F z1,0 L0 z1,1 L1 z1,2 L2 z1,3 L3 z1,4 L4 z1,5 L5 z1,6 L6 z1,7 L7 z1,8 L8 h";
            String[] want = {"", "1/1 0; 1 0; 1 0; 1 0; 1 0; 1 0; 1 0; 1 0; 1 0; 1", "2/0 0; 2 0; 0 0; 2 0; 0 0; 2 0; 0 0; 2 0; 0 0; 2",
                "3/0 0; 0 0; 3 0; 0 0; 0 0; 3 0; 0 0; 0 0; 3 0; 0", "4/0 0; 0 0; 0 0; 4 0; 0 0; 0 0; 0 0; 4 0; 0 0; 0",
                "5/0 0; 0 0; 0 0; 0 0; 5 0; 0 0; 0 0; 0 0; 0 0; 5", "6/0 0; 0 0; 0 0; 0 0; 0 0; 6 0; 0 0; 0 0; 0 0; 0",
                "7/0 0; 0 0; 0 0; 0 0; 0 0; 0 0; 7 0; 0 0; 0 0; 0", "8/0 0; 0 0; 0 0; 0 0; 0 0; 0 0; 0 0; 8 0; 0 0; 0",
                "9/0 0; 0 0; 0 0; 0 0; 0 0; 0 0; 0 0; 0 0; 9 0; 0"};
            for (int period = 1; period < 10; period++) dueTrained(text, period, "11: " + want[period]);
        });
        Sentences.part(5, "up to 9999.", () -> {
            Blockloom loom = counted("F h", 9999, 9990);
            loom.train(9);
            Dues.due("9990 and 9", "9999/9999", Looms.counts(loom, false));
            loom.train(1);
            Dues.due("9999 and 1", "9999/9999", Looms.counts(loom, false));
            loom.count(0, -1, 9991);
            loom.count(0, 0, 9998);
            loom.train(9);
            Dues.due("9991 and 9", "9999/9998", Looms.counts(loom, false));
            loom.train(1);
            Dues.due("9998 and 1", "9999/9999", Looms.counts(loom, false));
            loom.count(0, -1, 9989);
            loom.train(9);
            Dues.due("9989 and 9", "9998/9999", Looms.counts(loom, false));
            Blockloom ring = counted("F L0 p1 j0", 9500, 9999);
            ring.train(1);
            Dues.due("9500 and 1000", "9999/9999", Looms.counts(ring, false));
        });
    }

    private static void flows() {
        Sentences.part(5, "To let a function flow finds flows, 0 or more, for its slots and ways in,", () -> {
            dueFlow("F z1,0 p1 h L0 h", 4, "0/0 0; 0; 0", 0, 0, 0, 0, 4);
            dueFlow("F h", 0, "0/0", 0, 0);
            dueFlow("F h", 9999, "0/0", 9999, 0);
            Blockloom loom = counted("F h F h", 1, 2, 3, 4);
            loom.letFlow(1);
            Dues.due("of that function alone", "0/0; 2/2", Looms.counts(loom, true));
            loom.letFlow(0);
            Dues.due("of both", "1/1; 2/2", Looms.counts(loom, true));
        });
        Sentences.part(5, "so that for each of its blocks what comes in by slots and its way in is what goes out;", () -> {
            dueFlow("F L0 p1 j0", 2, "0/7", 7, 2);
            dueFlow("F p1 j0 L0 h", 4, "5/5; 5", 5, 5, 1);
            dueFlow("F p1 j0 L0 h L1 G0,1,0", 0, "5/5; 4/9", 5, 9, 5, 4);
            dueFlow("F L0 p1 z1,0 h", 0, "1/5 1; 1", 5, 1, 1, 1);
            dueFlow("F h p1 h", 4, "1/1; 0", 1, 4, 1);
            dueFlow("F h L0 j0", 0, "1/1; 4", 1, 4, 1);
            dueFlow("F j1 L0 h L1 j2 L2 r L3 G1,3,0", 9999, "9999/9999; 0/0; 9999; 9999", 9999, 0, 9999, 9999, 9999, 9999);
        });
        Sentences.part(5, "the sum of all amounts by which flows are not the counts is the least there is,", () -> {
            dueFlow("F z1,0 p1 L0 h", 4, "4/4 0; 0; 4", 0, 0, 0, 4, 4);
            dueFlow("F z1,0 p1 h L0 h", 4, "4/0 4; 4; 0", 1, 2, 5, 0, 4);
            dueFlow("F L0 y1,1 L1 z1,2 L2 y1,3 L3 z1,0 h", 2, "1/1 0; 0 1; 1 0; 0 1; 1", 1, 0, 0, 1, 1, 0, 1, 1, 1, 0);
            dueFlow("F z1,0 L0 h", 19998, "9999/0 9999; 9999", 9999, 9999, 9999, 0);
            Blockloom loom = Looms.apart("F" + LADDER + " h F" + LADDER + " r F z1,0 p1 L0 r");
            for (int round = 0; round < 20; round++) {
                for (int block = 0; block < 22; block++) {
                    for (int slot = 0; slot < loom.block(block, 's'); slot++) loom.count(block, slot, block % 11 < 10 ? 1 + slot : 3);
                }
                loom.count(0, -1, 3);
                loom.count(11, -1, 3);
                Dues.due("the function 0", 0, loom.letFlow(0));
                Dues.due("the function 2", 0, loom.letFlow(2));
                Dues.due("the function 1", 0, loom.letFlow(1));
                loom.count(0, -1, 4);
                Dues.due("one more comes in", 1, loom.letFlow(0));
                loom.count(21, 0, 2);
                Dues.due("one less goes out", 1, loom.letFlow(1));
                Dues.due("sound", true, loom.isSound());
            }
        });
    }

    private static void leastRows() {
        Sentences.part(5, "and of like ones that row is least which has the slots of blocks, by numbers, then the ways in, by blocks.", () -> {
            dueFlow("F p1 h", 2, "1/1", 3, 1);
            dueFlow("F p1 h", 2, "1/1", 1, 3);
            dueFlow("F z1,0 L0 h", 4, "4/0 4; 4", 0, 0, 4, 4);
            dueFlow("F w1,0 L0 h T0,0 T0,0", 4, "4/0 0 4; 4", 0, 0, 0, 4, 4);
            dueFlow("F z1,0 h L0 h", 8, "4/0 4; 4; 0", 0, 0, 4, 4, 4);
            dueFlow("F j2 L1 j2 L2 j3 L3 j4 L4 p1 h G2,3,1", 18, "0/0; 9/9; 9; 9; 9", 0, 0, 9, 9, 9, 0, 0);
            dueFlow("F j2 L1 j2 L2 j3 L3 j4 L4 p1 h G2,3,1", 18, "0/0; 0/0; 0; 0; 0", 0, 0, 9, 9, 0, 0, 0);
        });
    }

    private static void weights() {
        Sentences.part(5, "The weight of a block is what comes in.", () -> {
            Blockloom loom = counted("F L0 p1 z1,0 h", 5, 1, 1, 1);
            loom.letFlow(0);
            Dues.due("by itself and the way in", 6, loom.weight(0));
            Dues.due("by a slot", 1, loom.weight(1));
            Blockloom two = counted("F z1,0 L0 h", 2, 3, 5, 5);
            two.letFlow(0);
            Dues.due("by two slots", 5, two.weight(1));
            Blockloom large = counted("F j2 L1 j2 L2 h L3 G2,3,1", 9999, 9999, 9999, 9999, 9999);
            Dues.due("9999", 9999, large.letFlow(0));
            Dues.due("above 9999", 19998, large.weight(2));
        });
    }

    private static void promiseTrain() {
        Sentences.promise(33, "Trains by a run of the old image, which is the last run then.", () -> {
            Blockloom loom = Looms.apart("F c1 p1 z1,0 L0 h F d1 p1 r");
            loom.feed(8);
            loom.train(9);
            Dues.due("prints", "8 8", Looms.prints(loom));
            Dues.due("told", "1 0 2 1 h", loom.told('j') + " " + loom.told('t') + " " + loom.told('m') + " " + loom.told('d') + " " + loom.end());
            loom.make(1, false);
            loom.run(1);
            loom.train(1);
            Dues.due("of the old one", 2, loom.told('m'));
            String before = Looms.counts(loom, false);
            loom.run(0);
            loom.isLike();
            loom.isSound();
            Dues.due("other runs do not train", before, Looms.counts(loom, false));
        });
        Sentences.promise(33, "`period`: 1 to 9", () -> {
            for (int period = 1; period < 10; period++) {
                Blockloom loom = Looms.apart("F h");
                loom.train(period);
                Dues.due("period", period, loom.counted(0, -1));
            }
        });
        Sentences.promise(33, "Returns how many events there were.", () -> {
            Dues.due("least", 1, Looms.apart("F s1,9 f1 h").train(1));
            for (int period = 1; period < 10; period++) Dues.due("by " + period, 1001, Looms.apart("F L0 p1 j0").train(period));
            Blockloom loom = Looms.apart("F h");
            loom.train(1);
            Dues.due("again", 2, loom.train(1));
        });
        Sentences.promise(33, NOT_APART, () -> {
            Sentences.needsApart(loom -> loom.train(1));
            Sentences.needsApart(loom -> loom.train(9));
        });
        Sentences.promise(33, "Throws `IllegalArgumentException` if it is out of range", () -> {
            for (int period : new int[] {0, 10, -1, Integer.MIN_VALUE, Integer.MAX_VALUE}) {
                Sentences.refused(ARGUMENT, Looms::full, loom -> loom.train(period));
            }
        });
    }

    private static void promiseCount() {
        Sentences.promise(34, "Sets the count of a slot, or of a way in.", () -> {
            Blockloom loom = counted("F z1,0 p1 h L0 h F h", 1, 2, 3, 4, 5, 6, 7);
            Dues.due("counts", "6/1 2; 3; 4; 7/5", Looms.counts(loom, false));
            loom.letFlow(0);
            String flows = Looms.counts(loom, true);
            loom.count(0, 1, 9);
            Dues.due("flows stay", flows, Looms.counts(loom, true));
        });
        Sentences.promise(34, "`block`: its number", () -> {
            Blockloom loom = Looms.takenAway();
            loom.count(0, 0, 5);
            loom.count(2, 0, 6);
            Dues.due("counts", "0/5; 0/6", Looms.counts(loom, false));
        });
        Sentences.promise(34, "`slot`: its number, -1 for the way in", () -> {
            Blockloom loom = Looms.apart("F L0 w1,0 h T0,0 T0,0 T0,0 T0,0 T0,0");
            for (int slot = -1; slot < 6; slot++) loom.count(0, slot, slot + 10);
            Dues.due("counts", "9/10 11 12 13 14 15; 0", Looms.counts(loom, false));
        });
        Sentences.promise(34, "`number`: 0 to 9999", () -> {
            Blockloom loom = Looms.apart("F h");
            loom.count(0, 0, 9999);
            loom.count(0, -1, 9999);
            Dues.due("most", "9999/9999", Looms.counts(loom, false));
            loom.count(0, 0, 0);
            loom.count(0, -1, 0);
            Dues.due("least", "0/0", Looms.counts(loom, false));
        });
        Sentences.promise(34, "Returns the former one.", () -> {
            Blockloom loom = Looms.apart("F h");
            for (int slot = -1; slot < 1; slot++) {
                Dues.due("at first", 0, loom.count(0, slot, 9999));
                Dues.due("set", 9999, loom.count(0, slot, 0));
                Dues.due("set again", 0, loom.count(0, slot, 1));
            }
            loom.train(9);
            Dues.due("trained", 10, loom.count(0, -1, 1));
        });
        Sentences.promise(34, NOT_APART, () -> Sentences.needsApart(loom -> loom.count(0, 0, 1)));
        Sentences.promise(34, NO_BLOCK, () -> Sentences.needsBlock((loom, block) -> loom.count(block, 0, 1), true));
        Sentences.promise(34, NO_SLOT, () -> noSlot((loom, block, slot) -> loom.count(block, slot, 1)));
        Sentences.promise(34, "Throws `IllegalArgumentException` if the number is out of range", () -> {
            for (int number : new int[] {-1, 10000, Integer.MIN_VALUE, Integer.MAX_VALUE}) {
                Sentences.refused(ARGUMENT, Looms::full, loom -> loom.count(0, 0, number), loom -> loom.count(0, -1, number));
            }
        });
    }

    /** Asks something of a block and a slot. */
    private interface AskSlot {
        Object of(Blockloom loom, int block, int slot);
    }

    private static void noSlot(AskSlot ask) {
        for (int slot : FAR) Sentences.refused(NONE, Looms::full, loom -> ask.of(loom, 0, slot), loom -> ask.of(loom, 1, slot));
        Sentences.refused(NONE, Looms::full, loom -> ask.of(loom, 1, -1), loom -> ask.of(loom, 0, 2), loom -> ask.of(loom, 1, 3));
        Sentences.refused(NONE, Looms::takenAway, loom -> ask.of(loom, 0, 1), loom -> ask.of(loom, 2, 1));
        for (int block : new int[] {0, 4, 5, 6}) {
            Dues.due("there is a way in", true, Dues.of(() -> ask.of(Looms.full(), block, -1)) instanceof Integer);
        }
        Dues.due("there is a slot 2", true, Dues.of(() -> ask.of(Looms.full(), 1, 2)) instanceof Integer);
    }

    private static void promiseCounted() {
        Sentences.promise(35, "Returns the count of a slot, or of a way in.", () -> {
            Blockloom loom = counted("F z1,0 L0 h", 1, 2, 3, 4);
            Dues.due("counts", "4 1 2 3", loom.counted(0, -1) + " " + loom.counted(0, 0) + " " + loom.counted(0, 1) + " " + loom.counted(1, 0));
        });
        Sentences.promise(35, "`block`: its number", () -> Dues.due("0", 0, Looms.takenAway().counted(0, 0) + Looms.takenAway().counted(2, 0)));
        Sentences.promise(35, "`slot`: its number, -1 for the way in", () -> {
            Blockloom loom = counted("F L0 w1,0 h T0,0 T0,0 T0,0 T0,0 T0,0", 1, 2, 3, 4, 5, 6, 7, 8);
            for (int slot = 0; slot < 6; slot++) Dues.due("slot", slot + 1, loom.counted(0, slot));
            Dues.due("way in", 8, loom.counted(0, -1));
        });
        Sentences.promise(35, "Returns the count.", () -> {
            Blockloom loom = counted("F h", 9999, 9998);
            loom.letFlow(0);
            Dues.due("not the flow", 9999, loom.counted(0, 0));
        });
        Sentences.promise(35, NOT_APART, () -> Sentences.needsApart(loom -> loom.counted(0, 0)));
        Sentences.promise(35, NO_BLOCK, () -> Sentences.needsBlock((loom, block) -> loom.counted(block, 0), true));
        Sentences.promise(35, NO_SLOT, () -> noSlot((loom, block, slot) -> loom.counted(block, slot)));
    }

    private static void promiseLetFlow() {
        Sentences.promise(36, "Lets a function flow.", () -> dueFlow("F z1,0 p1 h L0 h", 0, "5/2 3; 3; 2", 2, 3, 3, 2, 5));
        Sentences.promise(36, "`function`: its number", () -> {
            StringBuilder text = new StringBuilder();
            for (int function = 0; function < 8; function++) text.append(" F h");
            Blockloom loom = Looms.apart(text.toString());
            for (int function = 7; function >= 0; function--) {
                loom.count(function, 0, function);
                loom.count(function, -1, function + 1);
                loom.letFlow(function);
                Dues.due("flow", function, loom.flow(function, 0));
            }
        });
        Sentences.promise(36, "Returns the sum of what was changed.", () -> {
            Dues.due("none", 0, counted("F h", 0, 0).letFlow(0));
            Dues.due("9999", 9999, counted("F h", 9999, 0).letFlow(0));
            Dues.due("by its counts, not by its flows", 2, counted("F h", 3, 1).letFlow(0));
            Blockloom loom = counted("F h", 3, 1);
            loom.letFlow(0);
            Dues.due("again", 2, loom.letFlow(0));
            Dues.due("above and below", 2, counted("F p1 j0 L0 p2 j1 L1 h", 4, 5, 6, 5).letFlow(0));
        });
        Sentences.promise(36, NOT_APART, () -> Sentences.needsApart(loom -> loom.letFlow(0)));
        Sentences.promise(36, "Throws `IndexOutOfBoundsException` if there is no such function, or it has no blocks", () ->
            Sentences.needsFunction(Blockloom::letFlow, true));
    }

    private static void promiseFlow() {
        Sentences.promise(37, "Returns the flow of a slot, or of a way in.", () -> {
            Blockloom loom = counted("F z1,0 L0 h", 1, 2, 3, 3);
            loom.letFlow(0);
            Dues.due("flows", "3 1 2 3", loom.flow(0, -1) + " " + loom.flow(0, 0) + " " + loom.flow(0, 1) + " " + loom.flow(1, 0));
        });
        Sentences.promise(37, "`block`: its number", () -> Dues.due("0", 0, Looms.takenAway().flow(0, 0) + Looms.takenAway().flow(2, 0)));
        Sentences.promise(37, "`slot`: its number, -1 for the way in", () -> {
            Blockloom loom = counted("F L0 w1,0 h T0,0 T0,0 T0,0 T0,0 T0,0", 1, 2, 3, 4, 5, 6, 6, 6);
            loom.letFlow(0);
            for (int slot = 0; slot < 6; slot++) Dues.due("slot", slot + 1, loom.flow(0, slot));
            Dues.due("way in", 6, loom.flow(0, -1));
        });
        Sentences.promise(37, "Returns the flow.", () -> {
            Blockloom loom = counted("F h", 9999, 9998);
            Dues.due("at first", 0, loom.flow(0, 0));
            loom.letFlow(0);
            Dues.due("not the count", 9998, loom.flow(0, 0));
        });
        Sentences.promise(37, NOT_APART, () -> Sentences.needsApart(loom -> loom.flow(0, 0)));
        Sentences.promise(37, NO_BLOCK, () -> Sentences.needsBlock((loom, block) -> loom.flow(block, 0), true));
        Sentences.promise(37, NO_SLOT, () -> noSlot((loom, block, slot) -> loom.flow(block, slot)));
    }

    private static void promiseWeight() {
        Sentences.promise(38, "Returns the weight of a block.", () -> {
            Blockloom loom = counted("F z1,0 p1 h L0 h", 2, 3, 3, 2, 5);
            Dues.due("ahead of flows", 0, loom.weight(0));
            loom.letFlow(0);
            Dues.due("weights", "5 3 2", loom.weight(0) + " " + loom.weight(1) + " " + loom.weight(2));
        });
        Sentences.promise(38, "`block`: its number", () -> Dues.due("0", 0, Looms.takenAway().weight(0) + Looms.takenAway().weight(2)));
        Sentences.promise(38, "Returns what comes in.", () -> {
            Blockloom loom = counted("F j2 L1 j2 L2 h L3 G2,3,1", 4, 5, 9, 4, 5);
            loom.letFlow(0);
            Dues.due("weights", "4 5 9", loom.weight(0) + " " + loom.weight(1) + " " + loom.weight(2));
            loom.thread();
            Dues.due("threaded", "0 0 0", loom.weight(0) + " " + loom.weight(1) + " " + loom.weight(2));
        });
        Sentences.promise(38, NOT_APART, () -> Sentences.needsApart(loom -> loom.weight(0)));
        Sentences.promise(38, NO_BLOCK, () -> Sentences.needsBlock(Blockloom::weight, true));
    }
}
