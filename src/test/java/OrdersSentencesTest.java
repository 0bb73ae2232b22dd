import java.util.NoSuchElementException;

/** Part 7 and the promises 43 to 47, sentence by sentence: orders of blocks, and of functions. */
final class OrdersSentencesTest {
    private static final Class<NoSuchElementException> NONE = NoSuchElementException.class;
    private static final int[] FAR = {-1, Integer.MIN_VALUE, Integer.MAX_VALUE};
    private static final String NOT_APART = "Throws `UnsupportedOperationException` if the old image is not apart without a fault";
    private static final String NO_FUNCTION = "Throws `IndexOutOfBoundsException` if there is no such function, or it has no blocks";
    /** Five blocks: the greatest gain of two that follow, 10, is left for two of 9. */
    private static final String CROSSED = "F L0 h L1 y1,3 L2 h L3 h L4 j2 G0,1,1 G0,1,4";
    private static final int[] CROSSED_COUNTS = {0, 10, 9, 19, 9, 9, 0, 19, 9};
    private static final String NINE = "F L0 z1,5 L1 y1,3 L2 y1,8 L3 y1,2 L4 z1,0 L5 w1,0 L6 y1,3 L7 y1,5 L8 p1 j6 T0,5";
    private static final int[] NINE_COUNTS = {4, 9, 2, 4, 3, 8, 7, 8, 0, 7, 4, 1, 1, 9, 4, 0, 5, 0};

    public static void main(String[] args) {
        Sentences.openPart(7);
        Sentences.openPromises(43, 47);
        gains();
        orders();
        small();
        joining();
        joiningRefused();
        liningUp();
        moving();
        asRead();
        places();
        callers();
        joiningRows();
        rowsOrder();
        promiseOrder();
        promiseOrderAt();
        promiseGain();
        promisePlace();
        promisePlaced();
        Sentences.close("OrdersSentencesTest");
    }

    /** Sets the counts of slots by blocks, and then of ways in, and lets all functions flow. */
    private static Blockloom flown(String text, int... counts) {
        Blockloom loom = Looms.apart(text);
        flow(loom, counts);
        return loom;
    }

    private static void flow(Blockloom loom, int... counts) {
        int index = 0;
        for (int block = 0; block < loom.blocks(); block++) {
            for (int slot = 0; slot < loom.block(block, 's'); slot++) loom.count(block, slot, index < counts.length ? counts[index++] : 0);
        }
        for (int block = 0; block < loom.blocks(); block++) {
            if (Looms.hasWayIn(loom, block)) loom.count(block, -1, index < counts.length ? counts[index++] : 0);
        }
        for (int function = 0; function < 8; function++) {
            int each = function;
            Dues.of(() -> loom.letFlow(each));
        }
    }

    private static void dueOrder(String text, int gain, String order, int... counts) {
        Blockloom loom = flown(text, counts);
        Dues.due("gain of " + text, gain, loom.order(0));
        Dues.due("order of " + text, order, Looms.order(loom, 0));
        Dues.due("gain then", gain, loom.gain(0));
        Dues.due("sound", true, loom.isSound());
    }

    private static void dueGain(String text, int gain, int... counts) {
        Dues.due("gain of " + text, gain, flown(text, counts).gain(0));
    }

    private static void gains() {
        Sentences.part(7, "The gain of a block behind another one is the flow of all slots by which the other one, of an end 'g' or 'c', "
            + "goes to it, or, of an end 'w', of its last slot.", () -> {
                dueGain("F j0 L0 h", 5, 5, 5, 5);
                dueGain("F z1,0 L0 h", 5, 2, 3, 5, 5);
                dueGain("F z1,0 p1 h L0 h", 3, 2, 3, 3, 2, 5);
                dueGain("F w1,0 L0 h T0,0", 3, 2, 3, 5, 5);
                dueGain("F w1,0 L0 h T0,0 T0,0 T0,0", 0, 2, 3, 4, 0, 9, 9);
                dueGain("F t1 p1 h", 0, 5, 0, 5);
                dueGain("F r p1 h", 0, 5, 0, 5);
                dueGain("F h p1 h", 0, 5, 0, 5);
                dueGain("F L0 p1 j0", 0, 7, 0);
            });
        Sentences.part(7, "The gain of an order is the sum for each block behind the one ahead.", () -> {
            dueGain("F h", 0, 5, 5);
            dueGain("F j0 L0 j1 L1 j2 L2 h", 15, 5, 5, 5, 5, 5);
            dueGain("F j1 L0 j2 L1 j0 L2 h", 0, 5, 5, 5, 5, 5);
            dueGain("F j0 L0 j1 L1 h L2 G1,2,0", 6, 1, 5, 5, 1, 4);
        });
    }

    private static void orders() {
        Sentences.part(7, "The order of a function has its blocks that are there, its first block first;", () -> {
            Blockloom loom = Looms.apart("F h p1 h F r p1 r L0 j0");
            Dues.due("of both", "0 1/2 3 4", Looms.order(loom, 0) + "/" + Looms.order(loom, 1));
            loom.drop();
            Dues.due("dropped", "0/2", Looms.order(loom, 0) + "/" + Looms.order(loom, 1));
            dueOrder("F L0 h L1 h L2 j0 G1,2,2", 0, "0 1 2", 9, 0, 9, 0, 9);
            dueOrder("F L0 j1 L1 j0", 7, "0 1", 7, 7, 0);
        });
        Sentences.part(7, "as read they are by numbers, the first block ahead.", () -> {
            Blockloom loom = flown(NINE, NINE_COUNTS);
            Dues.due("as read", "0 1 2 3 4 5 6 7 8", Looms.order(loom, 0));
            loom.order(0);
            loom.thread();
            Dues.due("as read again", "0 1 2 3 4 5 6 7 8", Looms.order(loom, 0));
        });
    }

    private static void small() {
        Sentences.part(7, "To order a function of up to 8 blocks finds the order with the greatest gain,", () -> {
            dueOrder(CROSSED, 18, "0 1 3 4 2", CROSSED_COUNTS);
            dueOrder("F L0 h L1 y1,3 L2 h L3 h L4 j2 h h h G0,1,1 G0,1,4", 18, "0 1 3 4 2 5 6 7", 0, 10, 9, 19, 9, 9, 0, 0, 0, 0, 19, 9);
            dueOrder("F j0 L1 h L0 j1", 10, "0 2 1", 5, 5, 5, 5);
            String eight = "F L0 h L1 h L2 h h h h h L3 h G0,1,3";
            dueOrder(eight, 0, "0 1 2 3 4 5 6 7", 0, 0, 0, 0, 0, 0, 0, 5, 0, 5);
            dueOrder(eight.replace(" L3", " h L3"), 0, "0 8 1 2 3 4 5 6 7", 0, 0, 0, 0, 0, 0, 0, 0, 5, 0, 5);
        });
        Sentences.part(7, "of like ones the least row.", () -> {
            dueOrder("F L0 h L1 j3 L2 j3 L3 h h G0,1,1 G0,1,2", 4, "0 1 2 3 4", 0, 4, 4, 8, 0, 0, 4, 4);
            dueOrder("F L0 h L1 z1,3 L2 h L3 h G0,1,1", 4, "0 1 2 3", 0, 4, 4, 4, 4, 0, 8);
            dueOrder("F h h h h h h h h", 0, "0 1 2 3 4 5 6 7");
            dueOrder("F L0 h L1 h L2 j1 L3 j4 L4 h G0,1,2 G0,1,3", 4, "0 2 1 3 4", 0, 4, 4, 0, 0, 0, 4, 0);
        });
    }

    private static final String PAIRS = "F L0 h L1 j5 L2 j6 L3 j7 L4 j8 L5 p1 h L6 p2 h L7 p3 h L8 p4 h G0,1,1 G0,1,2 G0,1,3 G0,1,4";
    private static final String TO_FIVE = "F L0 h L1 j5 L2 j5 L3 h L4 h L5 p1 h h h h G0,1,1 G0,1,2";

    /** Four blocks go to the block 5, by gains of 2, 4, 6 and 8: places of these, if each is another one. */
    private static void dueFourToFive(int... places) {
        int[] blocks = new int[4];
        for (int place = 0; place < 4; place++) blocks[places[place]] = place + 1;
        for (int block : blocks) if (block == 0) return;
        int[] gains = new int[4];
        for (int rank = 0; rank < 4; rank++) gains[blocks[rank] - 1] = 2 * rank + 2;
        String order = "0 " + blocks[3] + " 5 " + blocks[2] + " " + blocks[1] + " " + blocks[0] + " 6 7 8";
        dueOrder("F L0 h L1 j5 L2 j5 L3 j5 L4 j5 L5 h h h h G0,1,1 G0,1,2 G0,1,3 G0,1,4", 8, order, 0, gains[0], gains[1], gains[2], gains[3],
            20, 0, 0, 0, 0, gains[0], gains[1], gains[2], gains[3]);
    }

    private static void joining() {
        Sentences.part(7, "Of one with more, rows are joined: for each two blocks by gain, the greater first,", () -> {
            dueOrder(PAIRS, 20, "0 2 6 4 8 1 5 3 7", 0, 3, 9, 3, 5, 3, 9, 3, 5, 0, 3, 9, 3, 5);
            dueOrder(TO_FIVE, 5, "0 2 5 1 3 4 6 7 8", 0, 4, 5, 0, 0, 9, 0, 0, 0, 0, 4, 5);
            dueOrder(TO_FIVE, 5, "0 1 5 2 3 4 6 7 8", 0, 5, 4, 0, 0, 9, 0, 0, 0, 0, 5, 4);
            for (int set = 0; set < 256; set++) dueFourToFive(set & 3, set >> 2 & 3, set >> 4 & 3, set >> 6);
        });
        Sentences.part(7, "then by the one ahead,", () ->
            dueOrder(TO_FIVE, 4, "0 1 5 2 3 4 6 7 8", 0, 4, 4, 0, 0, 8, 0, 0, 0, 0, 4, 4));
        Sentences.part(7, "then the other,", () -> {
            dueOrder("F L0 h L1 z1,5 L2 h L3 h L4 h L5 h h h h G0,1,1", 4, "0 1 2 5 3 4 6 7 8", 0, 4, 4, 4, 0, 0, 4, 0, 0, 0, 0, 8);
            dueOrder("F L0 h L1 y1,5 L2 h L3 h L4 h L5 h h h h G0,1,1", 4, "0 1 2 5 3 4 6 7 8", 0, 4, 4, 4, 0, 0, 4, 0, 0, 0, 0, 8);
        });
        Sentences.part(7, "with a gain above 0:", () -> {
            dueOrder(PAIRS, 0, "0 1 2 3 4 5 6 7 8");
            dueOrder(PAIRS, 1, "0 4 8 1 2 3 5 6 7", 0, 0, 0, 0, 1, 0, 0, 0, 1, 0, 0, 0, 0, 1);
        });
    }

    private static void joiningRefused() {
        Sentences.part(7, "if the one ahead is the last of its row, the other one the first of another one", () -> {
            dueOrder("F j5 L1 h h L3 j5 h L5 h h h h G1,3,3", 9, "0 5 3 1 2 4 6 7 8", 9, 0, 0, 4, 0, 13, 0, 0, 0, 9, 4);
            dueOrder("F j5 L1 h h L3 j5 h L5 h h h h G1,3,3", 9, "0 3 5 1 2 4 6 7 8", 4, 0, 0, 9, 0, 13, 0, 0, 0, 4, 9);
            dueOrder("F h L1 j3 L2 j1 L3 j2 h h h h h", 10, "0 2 1 3 4 5 6 7 8", 0, 5, 5, 5);
            dueOrder("F h L1 j2 L2 j3 L3 j1 h h h h h", 10, "0 1 2 3 4 5 6 7 8", 0, 5, 5, 5);
            dueOrder("F L0 h L1 z1,3 L2 h L3 h h h h h h G0,1,1", 5, "0 1 3 2 4 5 6 7 8", 0, 5, 4, 4, 5, 0, 0, 0, 0, 0, 0, 9);
            dueOrder("F L0 h L1 p1 j1 h h h h h h h", 0, "0 1 2 3 4 5 6 7 8", 0, 5);
        });
        Sentences.part(7, "and not the first block.", () -> {
            dueOrder("F L0 y1,2 L1 h L2 j0 h h h h h h G1,2,2", 5, "0 1 2 3 4 5 6 7 8", 5, 4, 5, 9, 0, 0, 0, 0, 0, 0, 0, 5);
            dueOrder("F L0 j8 h h h h h h h L8 j0", 9, "0 8 1 2 3 4 5 6 7", 9, 0, 0, 0, 0, 0, 0, 0, 9);
        });
    }

    private static void liningUp() {
        Sentences.part(7, "Then rows stand one behind the other, that with the first block ahead,", () -> {
            dueOrder("F L0 h h h h h h h L1 j2 L2 h G0,1,1", 9, "0 7 8 1 2 3 4 5 6", 0, 0, 0, 0, 0, 0, 0, 9, 9, 0, 9);
            dueOrder("F L0 j1 h h h h h h h L1 h L2 h G0,1,2", 1, "0 8 9 1 2 3 4 5 6 7", 1, 0, 0, 0, 0, 0, 0, 0, 1, 9, 1, 9);
        });
        Sentences.part(7, "others by the greatest weight of a block in them, the greater first,", () -> {
            String text = "F L0 h L1 j4 L2 h L3 h L4 h h h h h G0,1,1 G0,1,2 G0,1,4";
            dueOrder(text, 2, "0 1 4 2 3 5 6 7 8", 0, 2, 5, 0, 9, 0, 0, 0, 0, 0, 2, 5, 7);
            dueOrder(text, 2, "0 2 1 4 3 5 6 7 8", 0, 2, 5, 0, 4, 0, 0, 0, 0, 0, 2, 5, 2);
        });
        Sentences.part(7, "then by their first blocks.", () -> {
            dueOrder(PAIRS, 12, "0 1 5 2 6 3 7 4 8", 0, 3, 3, 3, 3, 3, 3, 3, 3, 0, 3, 3, 3, 3);
            dueOrder("F L0 h L1 h L2 h h h h L6 j1 h h G0,1,2 G0,1,6", 4, "0 2 6 1 3 4 5 7 8", 0, 4, 4, 0, 0, 0, 4, 0, 0, 0, 4, 4);
        });
    }

    private static void moving() {
        Sentences.part(7, "Then, as long as that gains, that one block other than the first is moved to another place of the order, "
            + "not ahead of the first, by which the gain becomes greatest,", () -> {
                dueOrder("F L0 h L1 y1,3 L2 h L3 h L4 j2 h h h h G0,1,1 G0,1,4", 18, "0 1 3 4 2 5 6 7 8", 0, 10, 9, 19, 9, 9, 0, 0, 0, 0,
                    0, 19, 9);
                dueOrder(NINE, 40, "0 1 2 8 6 3 4 5 7", NINE_COUNTS);
                dueOrder("F L0 y1,7 L1 y1,8 L2 w1,0 L3 w1,0 L4 j6 L5 y1,2 L6 z1,3 L7 y1,5 L8 y1,6 j5 T0,0", 24, "0 1 8 9 5 2 3 4 6 7",
                    1, 0, 1, 2, 4, 4, 5, 4, 3, 3, 2, 5, 2, 1, 1, 2, 1, 4, 4);
                dueOrder("F L0 w1,0 L1 w1,0 L2 z1,6 L3 y1,5 L4 z1,1 L5 p1 L6 y1,4 L7 p1 L8 z1,5 j3 T0,5", 22, "0 8 3 4 1 2 6 7 5",
                    2, 9, 3, 2, 9, 3, 4, 7, 6, 7, 0, 3, 1, 9, 4, 2, 2);
            });
        Sentences.part(7, "of like ones the least block, to the least place.", () -> {
            dueOrder("F L0 w1,0 L1 z1,7 L2 y1,0 L3 p1 L4 z1,8 L5 p1 L6 j0 L7 p1 L8 y1,6 j7 T0,6", 12, "0 1 2 3 7 8 6 5 4",
                2, 0, 3, 1, 2, 2, 1, 4, 0, 2, 3, 4, 1, 4, 3);
            dueOrder("F L0 p1 L1 y1,5 L2 z1,5 L3 y1,8 L4 y1,3 L5 y1,5 L6 j0 L7 z1,4 L8 y1,4 L9 p1 j2 T0,1", 31, "0 1 2 7 3 4 5 8 6",
                4, 3, 0, 5, 3, 6, 4, 6, 6, 3, 1, 4, 3, 5, 6, 2, 0);
            dueOrder("F L0 p1 L1 p1 L2 z1,0 L3 z1,9 L4 y1,3 L5 z1,8 L6 y1,5 L7 j7 L8 w1,0 L9 y1,3 j4 T0,0", 27, "0 1 2 3 6 7 8 4 5",
                8, 5, 4, 6, 4, 4, 6, 4, 6, 4, 0, 8, 3, 4, 4, 2, 1);
            dueOrder("F L0 y1,8 L1 w1,0 L2 y1,1 L3 z1,1 L4 j6 L5 y1,4 L6 y1,5 L7 w1,0 L8 j7 j1 T0,3", 16, "0 1 2 3 4 6 5 7 8 9",
                5, 2, 1, 1, 3, 3, 5, 2, 4, 1, 0, 0, 4, 3, 1, 5, 2, 1);
            dueOrder("F L0 z1,1 L1 z1,2 L2 p1 L3 z1,5 L4 j1 L5 y1,8 L6 y1,8 L7 y1,6 L8 y1,6 j2 T0,8", 31, "0 6 5 7 8 2 3 1 4",
                9, 8, 6, 3, 7, 7, 0, 5, 5, 4, 7, 9, 9, 2, 4, 3, 1);
            dueOrder("F L0 y1,3 L1 j6 L2 y1,1 L3 y1,3 L4 z1,6 L5 z1,2 L6 j0 L7 j4 L8 j4 j3 T0,4", 22, "0 3 4 5 2 6 1 7 8 9",
                4, 5, 0, 6, 3, 6, 1, 9, 6, 7, 3, 2, 4, 8, 2, 9);
        });
    }

    private static void asRead() {
        Sentences.part(7, "If the gain is less than that of the order as read, that is the order.", () -> {
            dueOrder("F L0 p1 L1 y1,4 L2 z1,7 L3 w1,0 L4 w1,0 L5 y1,5 L6 y1,5 L7 p1 L8 w1,0 j0 T0,1", 30, "0 1 2 3 4 5 6 7 8",
                1, 4, 7, 4, 9, 3, 9, 5, 0, 6, 5, 2, 5, 1, 5, 9, 5);
            dueOrder("F L0 h h h h h h h h L1 h G0,1,1", 0, "0 8 1 2 3 4 5 6 7", 0, 0, 0, 0, 0, 0, 0, 0, 4, 0, 4);
            int[] asRead = {1, 4, 7, 4, 9, 3, 9, 5, 0, 6, 5, 2, 5, 1, 5, 9, 5};
            for (int turn = 1; turn < asRead.length; turn++) {
                int[] turned = new int[asRead.length];
                for (int index = 0; index < turned.length; index++) turned[index] = asRead[(index * 5 + turn) % turned.length];
                Blockloom loom = flown("F L0 p1 L1 y1,4 L2 z1,7 L3 w1,0 L4 w1,0 L5 y1,5 L6 y1,5 L7 p1 L8 w1,0 j0 T0,1", turned);
                loom.order(0);
                flow(loom, asRead);
                Dues.due("ordered with other flows ahead, turned by " + turn, 30, loom.order(0));
                Dues.due("as read", "0 1 2 3 4 5 6 7 8", Looms.order(loom, 0));
                flow(loom, NINE_COUNTS);
            }
        });
    }

    /** Functions of one block each, by the weights of them: how many rows, and their order. */
    private static void dueRows(String text, String want, int... weights) {
        Blockloom loom = Looms.apart(text);
        weigh(loom, weights);
        Dues.due("rows of " + text + " " + java.util.Arrays.toString(weights), want, loom.place() + ": " + Looms.placed(loom));
    }

    private static void weigh(Blockloom loom, int... weights) {
        for (int function = 0; function < weights.length; function++) {
            if (loom.same(function) != function) continue;
            int block = loom.orderAt(function, 0);
            loom.count(block, -1, weights[function]);
            loom.count(block, 0, weights[function]);
            loom.letFlow(function);
        }
    }

    private static void places() {
        Sentences.part(7, "To place orders the functions that are not folded.", () -> {
            Blockloom loom = Looms.apart("F h F p1 r F p1 r F p2 r");
            Dues.due("four", 4, loom.place());
            loom.fold();
            weigh(loom, 0, 0, 9, 5);
            Dues.due("three", "3: 3 0 1", loom.place() + ": " + Looms.placed(loom));
            Dues.due("without a piece", "2: 0 1", Looms.withoutPiece().place() + ": " + Looms.placed(Looms.withoutPiece()));
        });
        Sentences.part(7, "Each has the weight of its first block,", () -> {
            Blockloom loom = flown("F h F r L1 p1 j1 F r", 0, 1, 9, 5, 0, 1, 5);
            Dues.due("rows", "3: 2 1 0", loom.place() + ": " + Looms.placed(loom));
        });
        Sentences.part(7, "and a size, the bytes of its pieces in the old image.", () -> {
            for (int ops = 28; ops <= 29; ops++) {
                Blockloom loom = Looms.apart("F d1 z1,0 c1 h L0" + Looms.ops("p2", 23) + " h F" + Looms.ops("p3", ops) + " r");
                loom.feed(1);
                loom.train(1);
                loom.letFlow(0);
                loom.letFlow(1);
                loom.make(8, true);
                loom.adopt();
                loom.apart();
                loom.train(1);
                loom.letFlow(0);
                loom.letFlow(1);
                String pieces = "0:0-7 1:8-" + (9 + ops) + " 0:" + (9 + ops) + "-" + (33 + ops);
                Dues.due("pieces of " + (32 + ops) + " bytes", pieces, Looms.pieces(loom, 0));
                Dues.due("rows", ops == 28 ? 1 : 2, loom.place());
            }
        });
        Sentences.part(7, "By weights, the greater first, then numbers:", () -> {
            String text = "F c1 c2" + Looms.ops("p1", 13) + " h F" + Looms.ops("p2", 24) + " r F" + Looms.ops("p3", 24) + " r";
            dueRows(text, "2: 0 2 1", 5, 3, 4);
            dueRows(text, "2: 0 1 2", 5, 4, 3);
            dueRows(text, "2: 0 1 2", 5, 4, 4);
        });
        Sentences.part(7, "Functions are by numbers at first.", () -> {
            Dues.due("by numbers", "0 1 2 3", Looms.placed(Looms.apart("F c3 h F r F r F c1 r")));
            dueRows("F h F r F p1 r", "3: 0 1 2", 0, 0, 0);
        });
    }

    private static void callers() {
        Sentences.part(7, "of all functions that call it, or one that is the same,", () -> {
            dueRows("F c2 h F c2 r F p1 r", "2: 1 2 0", 3, 4, 1);
            Blockloom loom = Looms.apart("F c3 h F p1 r F p2 r F p1 r");
            loom.fold();
            weigh(loom, 5, 1, 4);
            Dues.due("it calls one that is the same", "2: 0 1 2", loom.place() + ": " + Looms.placed(loom));
            dueRows("F s1,1 f1 h F r", "2: 0 1", 5, 5);
        });
        Sentences.part(7, "by weights of blocks for each such 'c',", () -> {
            dueRows("F c2 h F c2 r F p1 r", "2: 1 2 0", 3, 5, 1);
            dueRows("F c2 c2 h F c2 r F p1 r", "2: 1 0 2", 3, 5, 1);
            Blockloom loom = flown("F z1,0 c2 L0 c2 h F c2 r F p1 r", 0, 3, 3, 3, 5, 1, 3, 5, 1);
            Dues.due("of two blocks", "2: 1 0 2", loom.place() + ": " + Looms.placed(loom));
            Blockloom one = flown("F z1,0 c2 L0 h F c2 r F p1 r", 0, 3, 3, 3, 5, 1, 3, 5, 1);
            Dues.due("of one block", "2: 1 2 0", one.place() + ": " + Looms.placed(one));
        });
        Sentences.part(7, "itself aside,", () -> dueRows("F h F c2 r F c2 r", "2: 1 2 0", 0, 1, 9));
        Sentences.part(7, "the one with the greatest sum, above 0,", () -> {
            dueRows("F c1 h F r", "2: 1 0", 0, 5);
            dueRows("F c1 h F r", "1: 0 1", 1, 5);
            dueRows("F c1 h F r", "1: 0 1", 9999, 9999);
            dueRows("F c1 h F r", "1: 0 1", 1, 0);
        });
        Sentences.part(7, "of like ones the least;", () -> {
            dueRows("F c2 h F c2 r F p1 r", "2: 0 2 1", 5, 5, 3);
            dueRows("F h F c3 r F c3 r F p1 r", "3: 1 3 2 0", 0, 5, 5, 3);
        });
    }

    private static void joiningRows() {
        Sentences.part(7, "if that is in another row,", () -> {
            dueRows("F h F c2 r F c1 p1 r", "2: 2 1 0", 0, 5, 5);
            dueRows("F h F c2 r F c3 p1 r F c1 p2 r", "2: 3 1 2 0", 0, 5, 4, 3);
        });
        Sentences.part(7, "and both rows together have no more than 60 bytes,", () -> {
            dueRows("F c1" + Looms.ops("p1", 26) + " h F" + Looms.ops("p2", 29) + " r", "1: 0 1", 5, 5);
            dueRows("F c1" + Looms.ops("p1", 26) + " h F" + Looms.ops("p2", 30) + " r", "2: 0 1", 5, 5);
            String three = "F c1 c2" + Looms.ops("p1", 13) + " h F" + Looms.ops("p2", 19) + " r F" + Looms.ops("p3", 19);
            dueRows(three + " r", "1: 0 1 2", 5, 5, 5);
            dueRows(three + " p3 r", "2: 0 1 2", 5, 5, 5);
            dueRows("F h F c2" + Looms.ops("s1,1", 16) + " r F" + Looms.ops("s2,2", 11) + " p1 r", "2: 1 2 0", 0, 5, 5);
            dueRows("F h F c2" + Looms.ops("s1,1", 16) + " r F" + Looms.ops("s2,2", 12) + " r", "3: 1 2 0", 0, 5, 5);
        });
        Sentences.part(7, "the row of the called one is put behind that of the caller.", () -> {
            dueRows("F c1 h F c2 r F p1 r", "1: 0 1 2", 3, 4, 5);
            dueRows("F c1 c2 h F r F p1 r", "1: 0 2 1", 9, 4, 5);
            dueRows("F c1 c3 h F c2 r F p1 r F p2 r", "1: 0 3 1 2", 3, 6, 7, 8);
        });
    }

    private static void rowsOrder() {
        Sentences.part(7, "Then rows stand by the greatest weight of a function in them, the greater first,", () -> {
            dueRows("F c2 h F r F p1 r", "2: 0 2 1", 1, 5, 9);
            dueRows("F c2 h F r F p1 r", "2: 1 0 2", 1, 5, 4);
            dueRows("F h F r F p1 r", "3: 2 1 0", 1, 2, 3);
        });
        Sentences.part(7, "then by their least function.", () -> {
            dueRows("F h F r F p1 r F c1 r", "3: 0 3 1 2", 9, 5, 5, 5);
            dueRows("F h F r F p1 r", "3: 0 1 2", 4, 4, 4);
            Blockloom loom = Looms.apart("F c1 c2" + Looms.ops("p1", 13) + " h F" + Looms.ops("p2", 24) + " r F" + Looms.ops("p3", 24) + " r");
            weigh(loom, 3, 4, 5);
            Dues.due("the greater first", "2: 0 2 1", loom.place() + ": " + Looms.placed(loom));
            weigh(loom, 5, 5, 5);
            Dues.due("by numbers behind that", "2: 0 1 2", loom.place() + ": " + Looms.placed(loom));
            weigh(loom, 0, 0, 0);
            Dues.due("by numbers again", "3: 0 1 2", loom.place() + ": " + Looms.placed(loom));
        });
    }

    private static void promiseOrder() {
        Sentences.promise(43, "Orders the blocks of a function.", () -> {
            dueOrder("F j0 L1 h L0 p1 j1", 10, "0 2 1", 5, 5, 5, 5);
            Blockloom loom = flown("F j0 L1 h L0 p1 j1 F j0 L1 h L0 p1 j1", 5, 5, 5, 5, 5, 5, 5, 5);
            loom.order(1);
            Dues.due("of that one alone", "0 1 2/3 5 4", Looms.order(loom, 0) + "/" + Looms.order(loom, 1));
        });
        Sentences.promise(43, "`function`: its number", () -> {
            Blockloom loom = Looms.apart("F h F h F h F h F h F h F h F j0 L1 h L0 j1");
            for (int block = 7; block < 10; block++) loom.count(block, 0, 5);
            loom.count(7, -1, 5);
            loom.letFlow(7);
            for (int function = 0; function < 7; function++) Dues.due("gain", 0, loom.order(function));
            Dues.due("gain", 10, loom.order(7));
        });
        Sentences.promise(43, "Returns the gain.", () -> {
            Dues.due("none", 0, Looms.apart("F h").order(0));
            Blockloom loom = flown(CROSSED, CROSSED_COUNTS);
            Dues.due("gain", 18, loom.order(0));
            Dues.due("again", 18, loom.order(0));
            loom.count(1, 0, 9);
            Dues.due("as flows stay", 18, loom.order(0));
        });
        Sentences.promise(43, NOT_APART, () -> Sentences.needsApart(loom -> loom.order(0)));
        Sentences.promise(43, NO_FUNCTION, () -> Sentences.needsFunction(Blockloom::order, true));
    }

    private static void promiseOrderAt() {
        Sentences.promise(44, "Returns a block of the order of a function.", () -> {
            Blockloom loom = flown(CROSSED, CROSSED_COUNTS);
            Dues.due("as read", 2, loom.orderAt(0, 2));
            loom.order(0);
            Dues.due("ordered", 3, loom.orderAt(0, 2));
            loom.letFlow(0);
            Dues.due("it stays as it flows", 3, loom.orderAt(0, 2));
        });
        Sentences.promise(44, "`function`: its number", () -> {
            Blockloom loom = Looms.apart("F h F h F h F h F h F h F h F h");
            for (int function = 0; function < 8; function++) Dues.due("block", function, loom.orderAt(function, 0));
        });
        Sentences.promise(44, "`index`: its place, from 0", () -> {
            Blockloom loom = Looms.apart("F" + Looms.ops("h", 40));
            for (int place = 0; place < 40; place++) Dues.due("block", place, loom.orderAt(0, place));
        });
        Sentences.promise(44, "Returns the block.", () -> {
            Blockloom loom = Looms.apart("F h h F h h j9 L9 h");
            loom.drop();
            Dues.due("what is there", "0/2", Looms.order(loom, 0) + "/" + Looms.order(loom, 1));
        });
        Sentences.promise(44, NOT_APART, () -> Sentences.needsApart(loom -> loom.orderAt(0, 0)));
        Sentences.promise(44, NO_FUNCTION, () -> Sentences.needsFunction((loom, function) -> loom.orderAt(function, 0), true));
        Sentences.promise(44, "Throws `NoSuchElementException` if there is no such place", () -> {
            for (int far : FAR) Sentences.refused(NONE, Looms::full, loom -> loom.orderAt(0, far));
            Sentences.refused(NONE, Looms::takenAway, loom -> loom.orderAt(0, 1), loom -> loom.orderAt(1, 1));
            Sentences.refused(NONE, () -> Looms.apart("F h h h F h"), loom -> loom.orderAt(0, 3), loom -> loom.orderAt(1, 1));
            Dues.due("the last one", 2, Looms.apart("F h h h F h").orderAt(0, 2));
        });
    }

    private static void promiseGain() {
        Sentences.promise(45, "Returns the gain of the order of a function.", () -> {
            Blockloom loom = flown(CROSSED, CROSSED_COUNTS);
            Dues.due("as read", 10, loom.gain(0));
            loom.order(0);
            Dues.due("ordered", 18, loom.gain(0));
        });
        Sentences.promise(45, "`function`: its number", () -> {
            Blockloom loom = flown("F j0 L0 h F j0 L0 h", 1, 1, 2, 2, 1, 2);
            Dues.due("gains", "1 2", loom.gain(0) + " " + loom.gain(1));
        });
        Sentences.promise(45, "Returns the gain.", () -> {
            Dues.due("none", 0, Looms.apart("F h").gain(0));
            Blockloom loom = flown("F j0 L0 h", 4, 4, 4);
            loom.count(0, 0, 9);
            Dues.due("not by counts", 4, loom.gain(0));
            loom.count(0, -1, 9);
            loom.count(1, 0, 9);
            loom.letFlow(0);
            Dues.due("by flows", 9, loom.gain(0));
        });
        Sentences.promise(45, NOT_APART, () -> Sentences.needsApart(loom -> loom.gain(0)));
        Sentences.promise(45, NO_FUNCTION, () -> Sentences.needsFunction(Blockloom::gain, true));
    }

    private static void promisePlace() {
        Sentences.promise(46, "Orders the functions.", () -> dueRows("F h F r F p1 r", "3: 1 2 0", 1, 3, 2));
        Sentences.promise(46, "Returns how many rows they came to stand in.", () -> {
            dueRows("F h", "1: 0", 5);
            dueRows("F h F r F r F r F r F r F r F r", "8: 0 1 2 3 4 5 6 7", 0, 0, 0, 0, 0, 0, 0, 0);
            dueRows("F c1 h F c2 r F c3 r F c4 r F c5 r F c6 r F c7 r F r", "1: 0 1 2 3 4 5 6 7", 1, 1, 1, 1, 1, 1, 1, 1);
        });
        Sentences.promise(46, NOT_APART, () -> Sentences.needsApart(Blockloom::place));
    }

    private static void promisePlaced() {
        Sentences.promise(47, "Returns a function by the order of functions.", () -> {
            Blockloom loom = Looms.apart("F h F r");
            weigh(loom, 1, 2);
            Dues.due("by numbers", "0 1", loom.placed(0) + " " + loom.placed(1));
            loom.place();
            Dues.due("placed", "1 0", loom.placed(0) + " " + loom.placed(1));
            loom.letFlow(0);
            Dues.due("it stays as they flow", "1 0", loom.placed(0) + " " + loom.placed(1));
        });
        Sentences.promise(47, "`index`: its place, from 0", () -> {
            Blockloom loom = Looms.apart("F h F r F r F r F r F r F r F r");
            for (int place = 0; place < 8; place++) Dues.due("function", place, loom.placed(place));
        });
        Sentences.promise(47, "Returns its number.", () -> Dues.due("not a folded one", "0 1", Looms.placed(Looms.takenAway())));
        Sentences.promise(47, NOT_APART, () -> Sentences.needsApart(loom -> loom.placed(0)));
        Sentences.promise(47, "Throws `NoSuchElementException` if there is no such place", () -> {
            for (int far : FAR) Sentences.refused(NONE, Looms::full, loom -> loom.placed(far));
            Sentences.refused(NONE, Looms::takenAway, loom -> loom.placed(2), loom -> loom.placed(8));
            Sentences.refused(NONE, Looms::withoutPiece, loom -> loom.placed(2));
            Dues.due("the last one", 1, Looms.takenAway().placed(1));
        });
    }
}
