import java.util.ArrayList;
import java.util.List;
import java.util.NoSuchElementException;

/** Promises 43 to 47: orders of blocks, and of functions. */
final class OrdersTest {
    private static final Class<NoSuchElementException> NONE = NoSuchElementException.class;
    private static final Class<IndexOutOfBoundsException> BOUNDS = IndexOutOfBoundsException.class;
    private static final Class<UnsupportedOperationException> UNSUPPORTED = UnsupportedOperationException.class;
    private static final String COUNTDOWN = "F s1,3 s2,1 L1 z1,2 p1 b1,2 j1 L2 h";

    public static void main(String[] args) {
        ordering();
        gainsOfSwitches();
        asks();
        exceptions();
        ordersAsByTrying();
        largeOrdersAsTold();
        placing();
        placesAsTold();
        Dues.close("OrdersTest");
    }

    private static void ordering() {
        Blockloom loom = Looms.apart(COUNTDOWN);
        Dues.due("without flows", 0, loom.order(0));
        Dues.due("the least row", "0 1 2 3", Looms.order(loom, 0));
        loom.train(1);
        loom.letFlow(0);
        Dues.due("gain as read", 4, loom.gain(0));
        Dues.due("gain", 4, loom.order(0));
        Dues.due("order", "0 1 2 3", Looms.order(loom, 0));
        loom.count(1, 1, 9);
        Dues.due("gain stays as counts change", 4, loom.gain(0));
        loom.letFlow(0);
        Dues.due("gain by new flows", 4, loom.gain(0));
        loom = Looms.apart("F d1 z1,0 p1 h L0 p2 j1 L2 p3 h L1 p4 j2");
        loom.train(1);
        loom.letFlow(0);
        Dues.due("gain as read, 0", 0, loom.gain(0));
        Dues.due("gain of a row", 3, loom.order(0));
        Dues.due("row", "0 2 4 3 1", Looms.order(loom, 0));
        Dues.due("gain then", 3, loom.gain(0));
    }

    private static void gainsOfSwitches() {
        Blockloom loom = Looms.apart("F d1 w1,0 p1 h L0 p2 h T0,0");
        loom.feed(0);
        loom.train(1);
        loom.letFlow(0);
        Dues.due("only the last slot gains", 0, loom.order(0));
        loom.clear();
        loom.feed(5);
        loom.count(0, 0, 0);
        loom.count(2, 0, 0);
        loom.train(1);
        loom.letFlow(0);
        Dues.due("the last slot gains", 1, loom.order(0));
        Blockloom both = Looms.apart("F d1 z1,0 L0 h");
        both.train(1);
        both.count(0, 1, 4);
        both.count(0, -1, 5);
        both.count(1, 0, 5);
        both.letFlow(0);
        Dues.due("both slots gain", 5, both.order(0));
        Blockloom out = Looms.apart("F t1 p1 h");
        out.count(0, 0, 5);
        out.count(0, -1, 5);
        out.letFlow(0);
        Dues.due("outside gains nothing", 0, out.order(0));
    }

    private static void asks() {
        Blockloom loom = Looms.apart("F j0 L1 h L0 p1 j1 F c1 h");
        Dues.due("as read", "0 1 2", Looms.order(loom, 0));
        Dues.due("of 1", 3, loom.orderAt(1, 0));
        loom.drop();
        loom.train(1);
        loom.letFlow(0);
        loom.order(0);
        Dues.due("ordered", "0 2 1", Looms.order(loom, 0));
        loom.letFlow(0);
        Dues.due("order stays as it flows", "0 2 1", Looms.order(loom, 0));
        Dues.due("sound", true, loom.isSound());
    }

    private static void exceptions() {
        Blockloom loom = Looms.linked("F p1 h F p1 h");
        Dues.refused("order", UNSUPPORTED, () -> loom.order(-1));
        Dues.refused("orderAt", UNSUPPORTED, () -> loom.orderAt(-1, 0));
        Dues.refused("gain", UNSUPPORTED, () -> loom.gain(-1));
        Dues.refused("place", UNSUPPORTED, loom::place);
        Dues.refused("placed", UNSUPPORTED, () -> loom.placed(-1));
        loom.apart();
        loom.fold();
        for (int function : new int[] {-1, 1, 2}) {
            Dues.refused("order of none", BOUNDS, () -> loom.order(function));
            Dues.refused("orderAt of none", BOUNDS, () -> loom.orderAt(function, -1));
            Dues.refused("gain of none", BOUNDS, () -> loom.gain(function));
        }
        Dues.refused("orderAt 1", NONE, () -> loom.orderAt(0, 1));
        Dues.refused("orderAt -1", NONE, () -> loom.orderAt(0, -1));
        Dues.refused("placed 1", NONE, () -> loom.placed(1));
        Dues.refused("placed -1", NONE, () -> loom.placed(-1));
        Dues.due("placed 0", 0, loom.placed(0));
        Dues.due("place", 1, loom.place());
    }

    private static void count(Blockloom loom, Drafts drafts, int bound) {
        for (int block = 0; block < loom.blocks(); block++) {
            if (!loom.isThere(block)) continue;
            for (int slot = 0; slot < loom.block(block, 's'); slot++) loom.count(block, slot, drafts.below(bound));
            if (Looms.hasWayIn(loom, block)) loom.count(block, -1, drafts.below(bound));
        }
    }

    private static int gainBehind(Blockloom loom, int ahead, int behind) {
        int slots = loom.block(ahead, 's');
        char end = loom.endOf(ahead);
        int gain = 0;
        for (int slot = end == 'w' ? slots - 1 : 0; slot < slots; slot++) {
            if (loom.successor(ahead, slot) == behind) gain += loom.flow(ahead, slot);
        }
        return gain;
    }

    private static int gainOf(Blockloom loom, List<Integer> row) {
        int gain = 0;
        for (int index = 1; index < row.size(); index++) gain += gainBehind(loom, row.get(index - 1), row.get(index));
        return gain;
    }

    private static List<Integer> asRead(Blockloom loom, int function) {
        List<Integer> row = new ArrayList<>();
        for (int block = 0; block < loom.blocks(); block++) {
            if (!loom.isThere(block) || loom.block(block, 'f') != function) continue;
            if (loom.block(block, 'b') == loom.begins(0, function)) row.add(0, block);
            else row.add(block);
        }
        return row;
    }

    private static String text(List<Integer> row) {
        return row.toString().replaceAll("[\\[\\],]", "");
    }

    private static List<Integer> best;
    private static int most;

    private static void tryAll(Blockloom loom, List<Integer> row, List<Integer> left) {
        if (left.isEmpty()) {
            int gain = gainOf(loom, row);
            if (best == null || gain > most) {
                most = gain;
                best = new ArrayList<>(row);
            }
            return;
        }
        for (int index = 0; index < left.size(); index++) {
            Integer block = left.remove(index);
            row.add(block);
            tryAll(loom, row, left);
            row.remove(row.size() - 1);
            left.add(index, block);
        }
    }

    private static void ordersAsByTrying() {
        Drafts drafts = new Drafts(7L);
        int tried = 0;
        for (int round = 0; round < 400; round++) {
            String draft = drafts.draw(2, 12);
            Blockloom loom = Looms.apart(draft);
            if (drafts.below(2) == 0) loom.drop();
            count(loom, drafts, 1 + drafts.below(9));
            for (int function = 0; Dues.of(loom.same(0) == 0 ? gainCall(loom, function) : null) instanceof Integer; function++) {
                loom.letFlow(function);
                List<Integer> row = asRead(loom, function);
                if (row.size() > 8) continue;
                tried++;
                best = null;
                List<Integer> left = new ArrayList<>(row.subList(1, row.size()));
                tryAll(loom, new ArrayList<>(row.subList(0, 1)), left);
                Dues.due("gain of " + draft, most, loom.order(function));
                Dues.due("row of " + draft, text(best), Looms.order(loom, function));
            }
            Dues.due("sound " + draft, true, loom.isSound());
        }
        Dues.due("enough were tried", true, tried > 200);
    }

    private static Dues.Call gainCall(Blockloom loom, int function) {
        return () -> loom.gain(function);
    }

    /** Large orders as the document tells to find them, by lists. */
    private static void largeOrdersAsTold() {
        Drafts drafts = new Drafts(11L);
        int tried = 0;
        for (int round = 0; round < 4000; round++) {
            String draft = round % 4 == 0 ? drafts.draw(2, 38) : drafts.drawDense(12 + drafts.below(27));
            Blockloom loom = Looms.apart(draft);
            if (drafts.below(2) == 0) loom.thread();
            count(loom, drafts, 1 + drafts.below(4 + round % 40));
            for (int function = 0; Dues.of(gainCall(loom, function)) instanceof Integer; function++) {
                loom.letFlow(function);
                List<Integer> row = asRead(loom, function);
                if (row.size() <= 8) continue;
                tried++;
                int gain = loom.order(function);
                String order = Looms.order(loom, function);
                List<Integer> want = largeOrder(loom, row);
                Dues.due("gain of " + draft, gainOf(loom, want), gain);
                Dues.due("row of " + draft, text(want), order);
                count(loom, drafts, 1 + drafts.below(12));
                loom.letFlow(function);
                loom.order(function);
                Dues.due("row anew of " + draft, text(largeOrder(loom, row)), Looms.order(loom, function));
            }
        }
        Dues.due("enough were tried", true, tried > 1500 && moves > 200);
    }

    private static int moves;

    private static List<Integer> largeOrder(Blockloom loom, List<Integer> read) {
        int first = read.get(0);
        List<int[]> pairs = new ArrayList<>();
        List<List<Integer>> rows = new ArrayList<>();
        for (int ahead : read) {
            rows.add(new ArrayList<>(List.of(ahead)));
            for (int behind : read) {
                int gain = gainBehind(loom, ahead, behind);
                if (gain > 0) pairs.add(new int[] {-gain, ahead, behind});
            }
        }
        pairs.sort((one, two) -> one[0] != two[0] ? one[0] - two[0] : one[1] != two[1] ? one[1] - two[1] : one[2] - two[2]);
        for (int[] pair : pairs) {
            List<Integer> from = null;
            List<Integer> to = null;
            for (List<Integer> row : rows) {
                if (row.get(row.size() - 1) == pair[1]) from = row;
                if (row.get(0) == pair[2]) to = row;
            }
            if (from == null || to == null || from == to || pair[2] == first) continue;
            from.addAll(to);
            rows.remove(to);
        }
        rows.sort((one, two) -> {
            if (one.get(0) == first) return two.get(0) == first ? 0 : -1;
            if (two.get(0) == first) return 1;
            int difference = weight(loom, two) - weight(loom, one);
            return difference != 0 ? difference : one.get(0) - two.get(0);
        });
        List<Integer> order = new ArrayList<>();
        for (List<Integer> row : rows) order.addAll(row);
        List<Integer> better = moved(loom, order);
        while (better != null) {
            moves++;
            order = better;
            better = moved(loom, order);
        }
        return gainOf(loom, order) < gainOf(loom, read) ? read : order;
    }

    private static int weight(Blockloom loom, List<Integer> row) {
        int weight = 0;
        for (int block : row) weight = Math.max(weight, loom.weight(block));
        return weight;
    }

    private static List<Integer> moved(Blockloom loom, List<Integer> order) {
        int gain = gainOf(loom, order);
        List<Integer> found = null;
        List<Integer> byNumbers = new ArrayList<>(order.subList(1, order.size()));
        byNumbers.sort(null);
        for (Integer block : byNumbers) {
            for (int place = 1; place < order.size(); place++) {
                List<Integer> other = new ArrayList<>(order);
                other.remove(block);
                other.add(place, block);
                int otherGain = gainOf(loom, other);
                if (otherGain > gain) {
                    gain = otherGain;
                    found = other;
                }
            }
        }
        return found;
    }

    private static void placing() {
        Blockloom loom = Looms.apart("F c2 h F p1 r F c1 p2 r F p3 p3 r");
        Dues.due("by numbers", "0 1 2 3", Looms.placed(loom));
        Dues.due("rows without weights", 4, loom.place());
        Dues.due("by numbers still", "0 1 2 3", Looms.placed(loom));
        loom.train(1);
        for (int function = 0; function < 4; function++) loom.letFlow(function);
        Dues.due("rows", 2, loom.place());
        Dues.due("callers ahead", "0 2 1 3", Looms.placed(loom));
        StringBuilder large = new StringBuilder("F c1 h F p1");
        for (int many = 0; many < 27; many++) large.append(" s1,1");
        dueRows(large + " r", 1);
        dueRows(large + " p1 r", 2);
        dueRows("F s1,1 L0 c1 b1,2 z7,1 L1 h F r", 1);
    }

    private static void dueRows(String text, int rows) {
        Blockloom loom = Looms.apart(text);
        loom.train(1);
        loom.letFlow(0);
        loom.letFlow(1);
        Dues.due("rows of " + text, rows, loom.place());
    }

    private static void placesAsTold() {
        Drafts drafts = new Drafts(13L);
        for (int round = 0; round < 400; round++) {
            String draft = drafts.draw(8, 14);
            Blockloom loom = Looms.apart(draft);
            if (drafts.below(2) == 0) loom.fold();
            count(loom, drafts, 1 + drafts.below(6));
            int functions = 0;
            while (Dues.of(sameCall(loom, functions)) instanceof Integer) functions++;
            for (int function = 0; function < functions; function++) {
                if (loom.same(function) == function && drafts.below(5) > 0) loom.letFlow(function);
            }
            List<List<Integer>> rows = rows(loom, functions);
            List<Integer> order = new ArrayList<>();
            for (List<Integer> row : rows) order.addAll(row);
            Dues.due("rows of " + draft, rows.size(), loom.place());
            Dues.due("places of " + draft, text(order), Looms.placed(loom));
        }
    }

    private static Dues.Call sameCall(Blockloom loom, int function) {
        return () -> loom.same(function);
    }

    private static int firstWeight(Blockloom loom, int function) {
        return loom.weight(asRead(loom, function).get(0));
    }

    private static int bytes(Blockloom loom, List<Integer> row) {
        int bytes = 0;
        for (int index = 0; Dues.of(pieceCall(loom, index)) instanceof Integer; index++) {
            if (row.contains(loom.piece(0, index, 'f'))) {
                bytes += loom.piece(0, index, 'e') - loom.piece(0, index, 'b');
            }
        }
        return bytes;
    }

    private static Dues.Call pieceCall(Blockloom loom, int index) {
        return () -> loom.piece(0, index, 'f');
    }

    private static List<List<Integer>> rows(Blockloom loom, int functions) {
        List<Integer> left = new ArrayList<>();
        List<List<Integer>> rows = new ArrayList<>();
        for (int function = 0; function < functions; function++) {
            if (loom.same(function) != function) continue;
            left.add(function);
            rows.add(new ArrayList<>(List.of(function)));
        }
        left.sort((one, two) -> firstWeight(loom, two) != firstWeight(loom, one)
            ? firstWeight(loom, two) - firstWeight(loom, one) : one - two);
        for (int function : left) {
            int caller = -1;
            long most = 0;
            for (int other = 0; other < functions; other++) {
                long sum = other == function || loom.same(other) != other ? 0 : calls(loom, other, function);
                if (sum > most) {
                    most = sum;
                    caller = other;
                }
            }
            List<Integer> from = rowOf(rows, function);
            List<Integer> to = caller < 0 ? from : rowOf(rows, caller);
            if (from == to || bytes(loom, from) + bytes(loom, to) > 60) continue;
            to.addAll(from);
            rows.remove(from);
        }
        rows.sort((one, two) -> {
            int difference = mostWeight(loom, two) - mostWeight(loom, one);
            return difference != 0 ? difference
                : java.util.Collections.min(one).compareTo(java.util.Collections.min(two));
        });
        return rows;
    }

    private static List<Integer> rowOf(List<List<Integer>> rows, int function) {
        for (List<Integer> row : rows) if (row.contains(function)) return row;
        return null;
    }

    private static int mostWeight(Blockloom loom, List<Integer> row) {
        int most = 0;
        for (int function : row) most = Math.max(most, firstWeight(loom, function));
        return most;
    }

    /** By the bytes of the caller's blocks: each long call to the begin of one that is the same. */
    private static long calls(Blockloom loom, int caller, int function) {
        long sum = 0;
        for (int block : asRead(loom, caller)) {
            int at = loom.block(block, 'b');
            for (int left = loom.block(block, 'o'); left > 0;) {
                int head = loom.byteAt(0, at);
                int kind = head >> 3;
                if (kind == 11) {
                    int to = at + 3 + (short) (loom.byteAt(0, at + 1) << 8 | loom.byteAt(0, at + 2));
                    for (int callee = 0; callee < 8; callee++) {
                        if (Dues.of(begin(loom, callee)).equals(to) && loom.same(callee) == function) {
                            sum += loom.weight(block);
                            break;
                        }
                    }
                }
                if (head != 0) left--;
                at += kind == 11 ? 3 : kind >= 1 && kind <= 4 ? 2 : 1;
            }
        }
        return sum;
    }

    private static Dues.Call begin(Blockloom loom, int function) {
        return () -> loom.begins(0, function);
    }
}
