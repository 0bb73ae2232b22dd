import java.math.BigInteger;
import java.util.NoSuchElementException;

/** Promises 33 to 38: profiles. */
final class ProfilesTest {
    private static final Class<NoSuchElementException> NONE = NoSuchElementException.class;
    private static final Class<IndexOutOfBoundsException> BOUNDS = IndexOutOfBoundsException.class;
    private static final Class<UnsupportedOperationException> UNSUPPORTED = UnsupportedOperationException.class;
    private static final Class<IllegalArgumentException> ARGUMENT = IllegalArgumentException.class;
    private static final String COUNTDOWN = "F s1,3 s2,1 L1 z1,2 p1 b1,2 j1 L2 h";

    public static void main(String[] args) {
        training();
        trainingCalls();
        trainingThrows();
        trainingAltered();
        counting();
        flowing();
        flowingLargely();
        weighing();
        exceptions();
        flowsAsByTrying();
        flowsWithoutBetter();
        Dues.close("ProfilesTest");
    }

    private static void dueTrained(String text, int period, int events, String counts, int... fed) {
        Blockloom loom = Looms.apart(text);
        for (int number : fed) loom.feed(number);
        Dues.due("events of " + text, events, loom.train(period));
        Dues.due("counts of " + text, counts, Looms.counts(loom, false));
        Dues.due("no flows of " + text, counts.replaceAll("[0-9]+", "0"), Looms.counts(loom, true));
    }

    private static void training() {
        dueTrained(COUNTDOWN, 1, 10, "1/1; 1 3; 3; 1");
        dueTrained(COUNTDOWN, 3, 10, "3/0; 0 3; 3; 3");
        dueTrained(COUNTDOWN, 9, 10, "9/0; 0 0; 0; 9");
        dueTrained("F d1 w1,0 s2,9 p2 h L0 p1 h L1 s2,5 p2 h T0,0 T0,1", 1, 3, "1/0 1 0; 0; 0; 1", 1);
        dueTrained("F d1 w1,0 s2,9 p2 h L0 p1 h L1 s2,5 p2 h T0,0 T0,1", 2, 3, "2/0 0 0; 2; 0; 0", 7);
        dueTrained("F L0 d1 y1,0 n L1 n h", 1, 5, "1/1 2; 1", 5, 6);
        dueTrained("F L0 d1 y1,0 L1 h", 1, 5, "1/1 2; 1", 5, 6);
        Blockloom loom = Looms.apart(COUNTDOWN);
        loom.train(9);
        Dues.due("train is a run", "3 2 1", Looms.prints(loom));
        Dues.due("with its end", 'h', loom.end());
        for (int round = 1; round < 1111; round++) {
            if (round < 400) loom.train(9);
        }
        Dues.due("counts add", 3600, loom.counted(0, -1));
        loom.count(0, -1, 9995);
        loom.train(9);
        Dues.due("counts up to 9999", 9999, loom.counted(0, -1));
    }

    private static void trainingCalls() {
        dueTrained("F c1 L0 p0 h T0,0 F r", 1, 4, "1/1; 1/1");
        dueTrained("F c1 L0 y0,0 h F r", 1, 6, "1/1; 1 0; 1; 1/1");
        dueTrained("F L0 c1 L1 y1,0 h F t0", 1, 3, "1/0 0; 0; 1/1");
        dueTrained("F s1,1 f1 z1,0 L0 h F r", 1, 5, "1/0 1; 1; 1/1");
        dueTrained("F c0 h", 1, 13, "13/0");
        dueTrained("F c1 h F d1 z1,0 c1 L0 r", 1, 9, "1/1; 2/1 1; 1; 2", 1, 0);
    }

    private static void trainingThrows() {
        dueTrained("F L0 s1,9 t1 L1 h L2 p0 h G0,1,2", 1, 4, "1/1; 0; 1/1");
        dueTrained("F t1", 1, 2, "1/1");
        dueTrained("F L0 c1 L1 h L2 p0 h G0,1,2 F t1", 1, 5, "1/0; 0; 1/1; 1/1");
        dueTrained("F h L0 t1 L1 h G0,1,1", 1, 2, "1/1; 0; 0/0");
        dueTrained("F L0 t1 L1 p1 h G0,1,0", 1, 2001, "1001/1000; 0");
    }

    private static void trainingAltered() {
        Blockloom loom = Looms.apart("F d1 z1,0 L1 j2 L0 j1 L2 p1 h p2 h");
        Dues.due("as read", "0@0 d>c1 2 1; 1@4 > 3; 2@7 > 1; 3@10 p>h -1; 4@12 p>h -1", Looms.blocks(loom));
        loom.thread();
        loom.drop();
        Dues.due("altered", "0@0 d>c1 3 3; 3@10 p>h -1", Looms.blocks(loom));
        loom.train(1);
        Dues.due("counts of slots as they were taken apart", "1/1 0; 1", Looms.counts(loom, false));
        Dues.due("events", 5, loom.train(1));
        Dues.due("events are counted from 0", 5, loom.train(5));
        Dues.due("by 5", "7/2 0; 2", Looms.counts(loom, false));
    }

    private static void counting() {
        Blockloom loom = Looms.apart(COUNTDOWN);
        Dues.due("former", 0, loom.count(1, 1, 9999));
        Dues.due("former way in", 0, loom.count(0, -1, 7));
        Dues.due("former again", 9999, loom.count(1, 1, 0));
        Dues.due("counted", 7, loom.counted(0, -1));
        Dues.due("counted slot", 0, loom.counted(1, 1));
        Dues.refused("count 10000", ARGUMENT, () -> loom.count(1, 1, 10000));
        Dues.refused("count -1", ARGUMENT, () -> loom.count(1, 1, -1));
        Dues.refused("slot 2", NONE, () -> loom.count(1, 2, 10000));
        Dues.refused("way in of 1", NONE, () -> loom.count(1, -1, 10000));
        Dues.refused("slot -2", NONE, () -> loom.count(0, -2, 10000));
        Dues.refused("block 4", BOUNDS, () -> loom.count(4, -1, 10000));
        Dues.refused("block -1", BOUNDS, () -> loom.count(-1, -1, 10000));
        Dues.due("nothing is changed", "7/0; 0 0; 0; 0", Looms.counts(loom, false));
    }

    private static void dueFlow(String text, int[] counts, int changed, String flows) {
        Blockloom loom = Looms.apart(text);
        setCounts(loom, counts);
        Dues.due("changed of " + text, changed, loom.letFlow(0));
        Dues.due("flows of " + text, flows, Looms.counts(loom, true));
        Dues.due("sound flow of " + text, true, loom.isSound());
    }

    /** Sets the counts of slots by blocks, and then of ways in. */
    private static void setCounts(Blockloom loom, int[] counts) {
        int index = 0;
        for (int block = 0; block < loom.blocks(); block++) {
            for (int slot = 0; loom.isThere(block) && slot < loom.block(block, 's'); slot++) {
                if (index < counts.length) loom.count(block, slot, counts[index++]);
            }
        }
        for (int block = 0; block < loom.blocks(); block++) {
            if (Looms.hasWayIn(loom, block) && index < counts.length) loom.count(block, -1, counts[index++]);
        }
    }

    private static void flowing() {
        dueFlow(COUNTDOWN, new int[] {1, 1, 3, 3, 1, 1}, 0, "1/1; 1 3; 3; 1");
        dueFlow(COUNTDOWN, new int[] {0, 0, 3, 3, 3, 3}, 6, "0/0; 0 3; 3; 0");
        dueFlow(COUNTDOWN, new int[] {0, 5, 3, 3, 5, 5}, 5, "5/5; 5 3; 3; 5");
        dueFlow("F p1 h", new int[] {3, 1}, 2, "1/1");
        dueFlow("F p1 h", new int[] {1, 3}, 2, "1/1");
        dueFlow("F L0 p1 j0", new int[] {7, 2}, 2, "0/7");
        dueFlow("F z1,0 p1 h L0 h", new int[] {0, 0, 0, 0, 4}, 4, "0/0 0; 0; 0");
        dueFlow("F z1,0 p1 h L0 h", new int[] {1, 2, 5, 0, 4}, 4, "4/0 4; 4; 0");
        dueFlow("F z1,0 p1 L0 h", new int[] {0, 0, 0, 4, 4}, 4, "4/4 0; 0; 4");
        Blockloom loom = Looms.apart("F p1 h F p2 h");
        loom.count(0, 0, 3);
        loom.count(0, -1, 3);
        loom.count(1, -1, 4);
        loom.count(1, 0, 4);
        Dues.due("function 1 flows", 0, loom.letFlow(1));
        Dues.due("function 0 does not", "0/0; 4/4", Looms.counts(loom, true));
        loom.count(1, 0, 9);
        Dues.due("flows stay as counts change", "0/0; 4/4", Looms.counts(loom, true));
        Dues.due("counts stay", 9, loom.counted(1, 0));
        Dues.due("function 1 flows anew", 5, loom.letFlow(1));
    }

    /** A loop of high counts, and a long row of blocks. */
    private static void flowingLargely() {
        Blockloom loom = Looms.apart("F L0 y1,1 L1 z1,2 L2 y1,3 L3 z1,0 h");
        setCounts(loom, new int[] {9999, 9999, 9999, 9999, 9999, 9999, 9999, 9999, 0, 0});
        Dues.due("a ring", 19998, loom.letFlow(0));
        Dues.due("is sound", true, loom.isSound());
    }

    private static void weighing() {
        Blockloom loom = Looms.apart(COUNTDOWN);
        loom.train(1);
        Dues.due("no weight ahead", 0, loom.weight(1));
        loom.letFlow(0);
        Dues.due("weight of the loop", 4, loom.weight(1));
        Dues.due("weight by the way in", 1, loom.weight(0));
        Dues.due("weight of the body", 3, loom.weight(2));
        Dues.refused("weight of none", BOUNDS, () -> loom.weight(4));
        Dues.refused("weight of -1", BOUNDS, () -> loom.weight(-1));
        Blockloom twice = Looms.apart("F z1,0 L0 h");
        setCounts(twice, new int[] {2, 3, 5, 5});
        twice.letFlow(0);
        Dues.due("weight by two slots", 5, twice.weight(1));
    }

    private static void exceptions() {
        Blockloom loom = Looms.linked("F p1 h p2 h F p1 h");
        Dues.refused("train", UNSUPPORTED, () -> loom.train(0));
        Dues.refused("count", UNSUPPORTED, () -> loom.count(-1, 0, 0));
        Dues.refused("counted", UNSUPPORTED, () -> loom.counted(-1, 0));
        Dues.refused("letFlow", UNSUPPORTED, () -> loom.letFlow(-1));
        Dues.refused("flow", UNSUPPORTED, () -> loom.flow(-1, 0));
        Dues.refused("weight", UNSUPPORTED, () -> loom.weight(-1));
        loom.apart();
        Dues.refused("train 0", ARGUMENT, () -> loom.train(0));
        Dues.refused("train 10", ARGUMENT, () -> loom.train(10));
        Dues.due("no run by that", '-', loom.end());
        Dues.refused("letFlow 2", BOUNDS, () -> loom.letFlow(2));
        Dues.refused("letFlow -1", BOUNDS, () -> loom.letFlow(-1));
        loom.drop();
        loom.fold();
        Dues.due("folded", "0@0 p>h -1", Looms.blocks(loom));
        Dues.refused("letFlow of a folded one", BOUNDS, () -> loom.letFlow(1));
        for (int block : new int[] {-1, 1, 2, 3}) {
            Dues.refused("count of none", BOUNDS, () -> loom.count(block, 0, 1));
            Dues.refused("counted of none", BOUNDS, () -> loom.counted(block, 9));
            Dues.refused("flow of none", BOUNDS, () -> loom.flow(block, 9));
            Dues.refused("weight of none", BOUNDS, () -> loom.weight(block));
        }
        Dues.refused("counted slot 1", NONE, () -> loom.counted(0, 1));
        Dues.refused("flow of slot 1", NONE, () -> loom.flow(0, 1));
        Dues.refused("flow of slot -2", NONE, () -> loom.flow(0, -2));
    }

    /** Small functions with small counts: all flows are tried. */
    private static void flowsAsByTrying() {
        Drafts drafts = new Drafts(20261119L);
        int tried = 0;
        for (int round = 0; round < 3000 && tried < 700; round++) {
            String text = drafts.draw(1, 9);
            Blockloom loom = Looms.apart(text);
            FlowTrial trial = new FlowTrial(loom);
            if (trial.edges() > 9) continue;
            tried++;
            int[] counts = new int[trial.edges()];
            for (int index = 0; index < counts.length; index++) counts[index] = drafts.below(4);
            setCounts(loom, counts);
            Dues.due("least change of " + text + " " + java.util.Arrays.toString(counts), trial.leastChange(counts),
                loom.letFlow(0));
            Dues.due("least row of " + text + " " + java.util.Arrays.toString(counts), trial.flows(),
                Looms.counts(loom, true));
        }
        Dues.due("enough were tried", true, tried > 300);
    }

    /** Large functions with large counts: no change of the flows along a ring makes them better. */
    private static void flowsWithoutBetter() {
        Drafts drafts = new Drafts(31L);
        for (int round = 0; round < 400; round++) {
            String text = round % 2 == 0 ? drafts.draw(1, 40) : drafts.drawDense(10 + drafts.below(28));
            Blockloom loom = Looms.apart(text);
            if (round % 3 == 0) loom.drop();
            FlowTrial trial = new FlowTrial(loom);
            int bound = round % 5 == 0 ? 3 : round % 5 == 1 ? 30 : 10000;
            int[] counts = new int[trial.edges()];
            for (int index = 0; index < counts.length; index++) counts[index] = drafts.below(bound);
            setCounts(loom, counts);
            int changed = loom.letFlow(0);
            Dues.due("sound flow of " + text, true, loom.isSound());
            Dues.due("best flow of " + text, true, trial.hasNoBetter());
            Dues.due("sum of " + text, trial.changed(), changed);
        }
    }

    /** Tries all flows of the function 0 of an object with one function. */
    private static final class FlowTrial {
        private final Blockloom loom;
        private final int nodes;
        private int[] from = new int[0];
        private int[] to = new int[0];
        private int[] counts;
        private int[] now;
        private int[] found;
        private int[] balance;
        private int least;

        FlowTrial(Blockloom loom) {
            this.loom = loom;
            nodes = loom.blocks();
            for (int block = 0; block < nodes; block++) {
                for (int slot = 0; loom.isThere(block) && slot < loom.block(block, 's'); slot++) {
                    int goal = loom.successor(block, slot);
                    add(block, goal < 0 ? nodes : goal);
                }
            }
            for (int block = 0; block < nodes; block++) if (Looms.hasWayIn(loom, block)) add(nodes, block);
        }

        /** Takes the counts and flows as they are told now. */
        private void readNow() {
            now = new int[from.length];
            counts = new int[from.length];
            int edge = 0;
            for (int block = 0; block < nodes; block++) {
                for (int slot = 0; loom.isThere(block) && slot < loom.block(block, 's'); slot++) {
                    now[edge] = loom.flow(block, slot);
                    counts[edge++] = loom.counted(block, slot);
                }
            }
            for (int block = 0; block < nodes; block++) {
                if (!Looms.hasWayIn(loom, block)) continue;
                now[edge] = loom.flow(block, -1);
                counts[edge++] = loom.counted(block, -1);
            }
        }

        int changed() {
            int sum = 0;
            for (int edge = 0; edge < from.length; edge++) sum += Math.abs(now[edge] - counts[edge]);
            return sum;
        }

        /** One more, or one less, costs what it changes, and then what it adds to the row, the first edge most. */
        boolean hasNoBetter() {
            readNow();
            BigInteger change = BigInteger.ONE.shiftLeft(8 * from.length + 8);
            BigInteger[] cost = new BigInteger[nodes + 1];
            java.util.Arrays.fill(cost, BigInteger.ZERO);
            for (int pass = 0; pass <= nodes + 1; pass++) {
                boolean isShorter = false;
                for (int edge = 0; edge < from.length; edge++) {
                    BigInteger row = BigInteger.ONE.shiftLeft(8 * (from.length - edge));
                    BigInteger more = (now[edge] >= counts[edge] ? change : change.negate()).add(row);
                    BigInteger less = (now[edge] > counts[edge] ? change.negate() : change).subtract(row);
                    if (isCheaper(cost, from[edge], to[edge], more)) isShorter = true;
                    if (now[edge] > 0 && isCheaper(cost, to[edge], from[edge], less)) isShorter = true;
                }
                if (!isShorter) return true;
            }
            return false;
        }

        private static boolean isCheaper(BigInteger[] cost, int tail, int head, BigInteger step) {
            BigInteger sum = cost[tail].add(step);
            if (sum.compareTo(cost[head]) >= 0) return false;
            cost[head] = sum;
            return true;
        }

        private void add(int tail, int head) {
            from = java.util.Arrays.copyOf(from, from.length + 1);
            to = java.util.Arrays.copyOf(to, to.length + 1);
            from[from.length - 1] = tail;
            to[to.length - 1] = head;
        }

        int edges() {
            return from.length;
        }

        int leastChange(int[] wanted) {
            counts = wanted;
            now = new int[from.length];
            balance = new int[nodes + 1];
            found = new int[from.length];
            least = 1;
            for (int count : counts) least += count;
            search(0, 0);
            return least;
        }

        /** Goes by rows from the least one on, so that the first one of the least change is kept. */
        private void search(int edge, int changed) {
            if (changed >= least) return;
            if (edge == from.length) {
                for (int node = 0; node <= nodes; node++) if (balance[node] != 0) return;
                least = changed;
                found = now.clone();
                return;
            }
            for (int amount = 0; amount <= 10; amount++) {
                now[edge] = amount;
                balance[from[edge]] -= amount;
                balance[to[edge]] += amount;
                if (mayBalance(edge)) search(edge + 1, changed + Math.abs(amount - counts[edge]));
                balance[from[edge]] += amount;
                balance[to[edge]] -= amount;
            }
        }

        private boolean mayBalance(int last) {
            for (int node = 0; node < nodes; node++) {
                if (balance[node] == 0) continue;
                boolean isOpen = false;
                for (int edge = last + 1; edge < from.length; edge++) {
                    if (from[edge] == to[edge]) continue;
                    if (balance[node] > 0 ? from[edge] == node : to[edge] == node) isOpen = true;
                }
                if (!isOpen) return false;
            }
            return true;
        }

        String flows() {
            StringBuilder text = new StringBuilder();
            int slots = 0;
            for (int edge = 0; edge < from.length; edge++) if (from[edge] < nodes) slots++;
            int way = slots;
            int edge = 0;
            for (int block = 0; block < nodes; block++) {
                if (block > 0) text.append("; ");
                if (Looms.hasWayIn(loom, block)) text.append(found[way++]).append('/');
                for (int slot = 0; slot < loom.block(block, 's'); slot++) {
                    if (slot > 0) text.append(' ');
                    text.append(found[edge++]);
                }
            }
            return text.toString();
        }
    }
}
