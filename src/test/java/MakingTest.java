import java.util.ArrayList;
import java.util.HashMap;
import java.util.List;
import java.util.Map;
import java.util.NoSuchElementException;

/** Promises 48 to 50: making new images. */
final class MakingTest {
    private static final Class<NoSuchElementException> NONE = NoSuchElementException.class;
    private static final Class<IndexOutOfBoundsException> BOUNDS = IndexOutOfBoundsException.class;
    private static final Class<UnsupportedOperationException> UNSUPPORTED = UnsupportedOperationException.class;
    private static final String COUNTDOWN = "F s1,3 s2,1 L1 z1,2 p1 b1,2 j1 L2 h";

    public static void main(String[] args) {
        plain();
        ends();
        aligned();
        split();
        tables();
        guards();
        longWays();
        tooMuch();
        longs();
        likeness();
        exceptions();
        madeAsTold();
        Dues.close("MakingTest");
    }

    private static void dueMade(String text, String bytes) {
        Blockloom loom = Looms.apart(text);
        Dues.due("size of " + text, bytes.split(" ").length, loom.make(1, false));
        Dues.due("bytes of " + text, bytes, Looms.bytes(loom, 1));
        Dues.due("sound " + text, true, loom.isSound());
        Dues.due("like " + text, true, loom.isLike());
    }

    private static void plain() {
        dueMade(COUNTDOWN, "9 3 10 1 49 5 41 25 2 80 249 83");
        Blockloom loom = Looms.apart(COUNTDOWN);
        loom.train(1);
        loom.letFlow(0);
        loom.order(0);
        loom.make(1, false);
        Dues.due("ran", "3 2 1 | h 9 7 4 2 0", Looms.ran(loom, 1));
        Dues.due("pieces", "0:0-12", Looms.pieces(loom, 1));
        loom.make(8, true);
        Dues.due("anew", "0:0-12", Looms.pieces(loom, 1));
        Dues.due("old one stays", 14, loom.size(0));
    }

    private static void ends() {
        dueMade("F n n h", "83");
        dueMade("F L0 n j0", "80 254");
        dueMade("F z3,0 L0 h", "83");
        dueMade("F j0 L1 p1 h L0 p2 j1", "80 2 41 83 42 80 251");
        dueMade("F z3,0 p1 h L0 p2 h", "51 2 41 83 42 83");
        dueMade("F y3,0 p1 h L0 p2 h", "59 2 41 83 42 83");
        dueMade("F L0 y3,1 L1 z2,0 p1 j1", "50 254 41 80 251");
        dueMade("F d1 w1,0 L0 p1 t2 T0,0", "113 97 0 41 106");
        dueMade("F c1 f2 h F r", "88 0 2 122 83 82");
        Blockloom loom = Looms.apart("F d3 z3,0 p1 h L0 p2 h L1 p3 h");
        loom.count(0, 0, 1);
        loom.count(0, -1, 1);
        loom.count(2, 0, 1);
        loom.letFlow(0);
        loom.order(0);
        Dues.due("slot 0 next", "0 2 1 3", Looms.order(loom, 0));
        loom.make(1, false);
        Dues.due("y to the slot 1", "115 59 2 42 83 41 83 43 83", Looms.bytes(loom, 1));
        loom = Looms.apart("F d3 z3,0 p1 h L0 p2 h L1 p3 z1,1 h");
        loom.count(3, 0, 9);
        loom.count(4, 0, 9);
        loom.make(2, true);
        Dues.due("nothing flows", "115 51 2 41 83 42 83 43 49 253 83", Looms.bytes(loom, 1));
        loom = Looms.apart("F d3 L1 z3,0 p1 j1 L0 p2 h");
        loom.feed(5);
        loom.train(1);
        loom.count(0, -1, 0);
        loom.count(1, 0, 0);
        loom.count(3, 0, 0);
        loom.letFlow(0);
        loom.make(1, true);
        Dues.due("z and j", "115 51 3 41 80 251 42 83", Looms.bytes(loom, 1));
        Dues.due("like", true, loom.isLike());
    }

    private static void aligned() {
        Blockloom loom = Looms.apart("F c1 p0 h F r F p1 r");
        Dues.due("1", 8, loom.make(1, false));
        Dues.due("2", 10, loom.make(2, false));
        Dues.due("pieces by 2", "0:0-5 1:6-7 2:8-10", Looms.pieces(loom, 1));
        loom.make(4, false);
        Dues.due("pieces by 4", "0:0-5 1:8-9 2:12-14", Looms.pieces(loom, 1));
        Dues.due("bytes by 4", "88 0 5 40 83 0 0 0 82 0 0 0 41 82", Looms.bytes(loom, 1));
        Dues.due("8", 18, loom.make(8, false));
        Dues.due("begin of 2", 16, loom.begins(1, 2));
        Dues.due("like", true, loom.isLike());
    }

    private static void split() {
        Blockloom loom = Looms.apart("F d1 z1,0 p1 h L0 c1 h F y1,0 p2 r L0 p3 r F p4 r");
        loom.feed(0);
        loom.train(1);
        loom.letFlow(0);
        loom.letFlow(1);
        loom.make(4, true);
        Dues.due("pieces", "0:0-7 1:8-12 2:12-14 0:14-16 1:16-18", Looms.pieces(loom, 1));
        Dues.due("bytes", "113 57 11 88 0 2 83 0 57 6 42 82 44 82 41 83 43 82", Looms.bytes(loom, 1));
        Dues.due("like", true, loom.isLike());
        Dues.due("sound", true, loom.isSound());
        loom.make(4, false);
        Dues.due("not split", "0:0-9 1:12-18 2:20-22", Looms.pieces(loom, 1));
        loom.adopt();
        loom.apart();
        Dues.due("no weights, no split", 17, loom.make(1, true));
        loom = Looms.apart("F z1,0 p1 h L0 h");
        loom.count(2, 0, 5);
        loom.make(1, true);
        Dues.due("one piece without weights", "0:0-5", Looms.pieces(loom, 1));
        loom = Looms.apart("F p1 j0 L1 h L0 z1,1 j0");
        loom.count(2, 1, 5);
        loom.count(3, 0, 5);
        loom.letFlow(0);
        Dues.due("the first one without weight", 0, loom.weight(0));
        loom.make(1, true);
        Dues.due("is not left out", "0:0-5 0:5-6", Looms.pieces(loom, 1));
        Dues.due("bytes of that", "41 49 2 80 252 83", Looms.bytes(loom, 1));
        Dues.due("sound", true, loom.isSound());
    }

    private static void tables() {
        Blockloom loom = Looms.apart("F d1 w1,2 j0 L0 p1 h L1 p2 h w1,3 h T2,1 T2,0 T3,0");
        loom.make(1, false);
        Dues.due("table 2", "5 3", Looms.table(loom, 1, 2));
        Dues.due("table 3", "3", Looms.table(loom, 1, 3));
        loom.drop();
        loom.make(1, false);
        Dues.due("table 2 still", "5 3", Looms.table(loom, 1, 2));
        Dues.due("table 3 without a switch", "", Looms.table(loom, 1, 3));
        Dues.due("sound", true, loom.isSound());
        loom = Looms.apart("F p1 h L0 p2 h T0,0");
        loom.make(1, false);
        Dues.due("a table without a switch", "", Looms.table(loom, 1, 0));
        loom = Looms.apart("F L2 d1 w1,0 L0 j1 L1 p1 j2 T0,0 T0,1 T0,2");
        loom.thread();
        loom.make(1, false);
        Dues.due("threaded", "5 5 0", Looms.table(loom, 1, 0));
    }

    private static void guards() {
        Blockloom loom = Looms.apart("F L0 p1 c1 L4 z1,1 L5 p2 L1 p3 L2 h L3 p0 h G0,1,3 G1,2,3 F t1");
        loom.make(1, false);
        Dues.due("one row", "0-8^9", Looms.guards(loom, 1));
        Dues.due("two in the old one", 2, Looms.guards(loom, 0).split(" ").length);
        loom.adopt();
        loom.apart();
        loom.make(1, false);
        Dues.due("again", "0-8^9", Looms.guards(loom, 1));
        loom = Looms.apart("F L0 p1 L1 p2 L2 p3 h L3 p4 h G0,1,2 G1,2,3 G2,3,2");
        loom.make(1, false);
        Dues.due("rows by blocks", "0-1^2 1-2^4 2-4^2", Looms.guards(loom, 1));
        loom = Looms.apart("F z1,1 L0 n n L1 p1 L2 h G0,1,2");
        loom.make(1, false);
        Dues.due("no bytes, no guard", "", Looms.guards(loom, 1));
        loom = Looms.apart("F L0 p1 L1 n L2 p2 L3 h G0,1,3 G2,3,3");
        loom.make(1, false);
        Dues.due("another block between", "0-1^2 1-2^2", Looms.guards(loom, 1));
        loom = Looms.apart("F L0 t1 L1 h G0,1,1 F L0 t1 L1 h G0,1,1");
        loom.fold();
        loom.make(1, false);
        Dues.due("folded", "0-1^1", Looms.guards(loom, 1));
    }

    /** A function that is split, with large ones between: some of its jumps are long. */
    private static Blockloom farApart(int calls, String last) {
        StringBuilder text = new StringBuilder("F d1 z1,0 L1 p1 c1 h L0 p2 j1 F");
        for (int many = 0; many < calls; many++) text.append(" c2");
        text.append(" r F ").append(last).append(" r");
        Blockloom loom = Looms.apart(text.toString());
        loom.feed(5);
        loom.train(1);
        loom.letFlow(0);
        return loom;
    }

    private static void longWays() {
        Blockloom loom = farApart(39, "p3");
        Dues.due("short ones", 131, loom.make(1, true));
        Dues.due("no long one", 0, loom.longs(1));
        Dues.due("pieces", "0:0-8 1:8-126 2:126-128 0:128-131", Looms.pieces(loom, 1));
        Dues.due("like", true, loom.isLike());
        loom = farApart(39, "p3");
        loom.make(8, true);
        Dues.due("pieces by 8", "0:0-8 1:8-126 2:128-130 0:130-134", Looms.pieces(loom, 1));
        Dues.due("a way of 127, and one of -130", 1, loom.longs(1));
        Dues.due("like, with a long one", true, loom.isLike());
        loom = farApart(39, "p3 p3");
        loom.make(8, true);
        Dues.due("pieces laid anew", "0:0-9 1:16-134 2:136-139 0:139-143", Looms.pieces(loom, 1));
        Dues.due("a way of 128, and one of -131", 2, loom.longs(1));
        Dues.due("like, with long ones", true, loom.isLike());
        Dues.due("sound, with long ones", true, loom.isSound());
    }

    private static void tooMuch() {
        StringBuilder text = new StringBuilder();
        for (int function = 0; function < 5; function++) {
            text.append(" F");
            for (int many = 0; many < 39; many++) text.append(" c0");
            text.append(" h");
        }
        Blockloom loom = Looms.apart(text.toString());
        Dues.due("590 bytes", 590, loom.make(1, false));
        Dues.due("598 bytes", 598, loom.make(8, false));
        loom = Looms.apart(text + " F p1 p1 p1 p1 p1 p1 p1 p1 p1 h");
        Dues.due("600 bytes", 600, loom.make(1, false));
        Blockloom large = loom;
        Dues.refused("too many bytes", IllegalStateException.class, () -> large.make(4, false));
        Dues.due("nothing is changed", 600, large.size(1));
        Dues.refused("no aligning, too many bytes", IllegalArgumentException.class, () -> large.make(3, false));
        Blockloom most = manyGuards("");
        Dues.due("24 guards", true, Dues.of(() -> most.make(1, false)) instanceof Integer);
        Dues.due("all of them", 24, Looms.guards(most, 1).split(" ").length);
        Dues.due("sound with 24", true, most.isSound());
        most.adopt();
        most.apart();
        Dues.due("24 as read", true, Dues.of(() -> most.make(1, false)) instanceof Integer);
        Blockloom more = manyGuards(" F L0 p1 L1 h G0,1,1");
        Dues.refused("25 guards", IllegalStateException.class, () -> more.make(1, false));
        Dues.due("nothing is made", 0, more.size(1));
    }

    /** Six functions, each with four guarded blocks that stand between others, and what comes behind. */
    private static Blockloom manyGuards(String behind) {
        StringBuilder text = new StringBuilder();
        for (int function = 0; function < 6; function++) {
            text.append(" F L0 p1 j4 L1 p1 j5 L2 p1 j6 L3 p1 j7 L4 p2 j1 L5 p2 j2 L6 p2 j3 L7 p2 h G0,4,7");
        }
        Blockloom loom = Looms.apart(text + behind);
        for (int block = 0; block < loom.blocks(); block++) {
            loom.count(block, 0, 1);
            if (block % 8 == 0) loom.count(block, -1, 1);
        }
        for (int function = 0; function < 6; function++) {
            loom.letFlow(function);
            loom.order(function);
        }
        Dues.due("guarded ones between others", "8 12 9 13 10 14 11 15", Looms.order(loom, 1));
        return loom;
    }

    private static Dues.Call orderCall(Blockloom loom, int function) {
        return () -> loom.order(function);
    }

    private static void longs() {
        Blockloom loom = Looms.linked("F L0 z1,0 y1,0 j0 F L0 c0 j0");
        Dues.due("all are long", 4, loom.longs(0));
        loom.poke(3, 255);
        Dues.due("none behind what is no operation", 2, loom.longs(0));
        loom.poke(3, 9);
        loom.poke(5, 0);
        Dues.due("read operation by operation", 3, loom.longs(0));
        Dues.refused("longs of new", NONE, () -> loom.longs(1));
        Dues.refused("longs of 2", BOUNDS, () -> loom.longs(2));
        Dues.refused("longs of -1", BOUNDS, () -> loom.longs(-1));
        Dues.refused("longs of none", NONE, () -> new Blockloom().longs(0));
    }

    private static void likeness() {
        Blockloom loom = Looms.apart(COUNTDOWN);
        Dues.refused("no new one", NONE, loom::isLike);
        loom.make(1, false);
        Dues.due("like", true, loom.isLike());
        Dues.due("no run by that", '-', loom.end());
        loom.run(1);
        loom.poke(1, 5);
        Dues.refused("poked", NONE, loom::isLike);
        Dues.due("last run", "3 2 1", Looms.prints(loom));
    }

    private static void exceptions() {
        Blockloom loom = Looms.linked("F p1 h");
        Dues.refused("make", UNSUPPORTED, () -> loom.make(3, false));
        loom.apart();
        for (int aligning : new int[] {0, -1, 3, 5, 6, 7, 9, 16}) {
            Dues.refused("make by " + aligning, IllegalArgumentException.class, () -> loom.make(aligning, true));
        }
        Dues.due("nothing is made", 0, loom.size(1));
        loom.make(1, true);
        loom.poke(0, 1);
        Dues.due("made no more", 0, loom.size(1));
    }

    private static void madeAsTold() {
        Drafts drafts = new Drafts(17L);
        int made = 0;
        for (int round = 0; round < 1500; round++) {
            String draft = drafts.draw(round % 3 == 0 ? 8 : 3, round % 2 == 0 ? 12 : 38);
            Blockloom loom = Looms.apart(draft);
            for (int step = drafts.below(4); step > 0; step--) {
                int what = drafts.below(3);
                if (what == 0) loom.thread();
                else if (what == 1) loom.drop();
                else loom.fold();
            }
            loom.train(1);
            for (int function = 0; function < 8; function++) {
                if (Dues.of(orderCall(loom, function)) instanceof Integer && drafts.below(4) > 0) loom.letFlow(function);
                if (drafts.below(2) == 0) Dues.of(orderCall(loom, function));
            }
            if (drafts.below(2) == 0) loom.place();
            int aligning = 1 << drafts.below(4);
            boolean isSplit = drafts.below(2) == 0;
            Object bytes = Dues.of(() -> loom.make(aligning, isSplit));
            OtherMaker other = new OtherMaker(loom, aligning, isSplit);
            Dues.due("make of " + draft, other.answer(), bytes);
            if (!(bytes instanceof Integer)) continue;
            made++;
            Dues.due("bytes of " + draft, other.bytes(), Looms.bytes(loom, 1));
            Dues.due("guards of " + draft, other.guards.toString(), "[" + Looms.guards(loom, 1).replace(" ", ", ") + "]");
            Dues.due("like " + draft, true, loom.isLike());
            Dues.due("sound " + draft, true, loom.isSound());
        }
        Dues.due("enough were made", true, made > 900);
    }

    /** Makes an image as the document tells, by lists, from what the face tells of the blocks. */
    private static final class OtherMaker {
        private final Blockloom loom;
        private final List<List<Integer>> pieces = new ArrayList<>();
        private final Map<Integer, Integer> addresses = new HashMap<>();
        private final Map<String, Boolean> isLong = new HashMap<>();
        private final int aligning;
        private int mains;
        private List<Integer> code = new ArrayList<>();
        private final List<String> guards = new ArrayList<>();

        OtherMaker(Blockloom loom, int aligning, boolean isSplit) {
            this.loom = loom;
            this.aligning = aligning;
            List<List<Integer>> cold = new ArrayList<>();
            for (String word : Looms.placed(loom).split(" ")) {
                List<Integer> warmPiece = new ArrayList<>();
                List<Integer> coldPiece = new ArrayList<>();
                String[] order = Looms.order(loom, Integer.parseInt(word)).split(" ");
                boolean isWarm = false;
                for (String block : order) isWarm |= loom.weight(Integer.parseInt(block)) > 0;
                for (String text : order) {
                    int block = Integer.parseInt(text);
                    boolean isLeft = isSplit && isWarm && loom.weight(block) == 0 && !text.equals(order[0]);
                    (isLeft ? coldPiece : warmPiece).add(block);
                }
                pieces.add(warmPiece);
                if (!coldPiece.isEmpty()) cold.add(coldPiece);
            }
            mains = pieces.size();
            pieces.addAll(cold);
            for (List<Integer> piece : pieces) for (int block : piece) addresses.put(block, 0);
            layUntilAllFits();
        }

        Object answer() {
            return code.size() > 600 || guards.size() > 24 ? "throws IllegalStateException" : (Object) code.size();
        }

        String bytes() {
            return code.toString().replaceAll("[\\[\\],]", "");
        }

        private void layUntilAllFits() {
            boolean isSettled = false;
            while (!isSettled) {
                Map<Integer, Integer> before;
                do {
                    before = new HashMap<>(addresses);
                    lay(null);
                } while (!before.equals(addresses));
                List<String> misfits = new ArrayList<>();
                lay(misfits);
                for (String misfit : misfits) isLong.put(misfit, true);
                isSettled = misfits.isEmpty();
            }
        }

        private void lay(List<String> misfits) {
            code = new ArrayList<>();
            guards.clear();
            for (int index = 0; index < pieces.size(); index++) {
                while (index < mains && code.size() % aligning != 0) code.add(0);
                List<Integer> piece = pieces.get(index);
                int open = -1;
                int from = 0;
                for (int place = 0; place < piece.size(); place++) {
                    int block = piece.get(place);
                    if (loom.block(block, 'g') != open) {
                        addGuard(from, open);
                        open = loom.block(block, 'g');
                        from = code.size();
                    }
                    addresses.put(block, code.size());
                    layBlock(block, place + 1 < piece.size() ? piece.get(place + 1) : -1, misfits);
                }
                addGuard(from, open);
            }
        }

        private void addGuard(int from, int at) {
            if (at >= 0 && code.size() > from) guards.add(from + "-" + code.size() + "^" + addresses.get(at));
        }

        private void layBlock(int block, int next, List<String> misfits) {
            int at = loom.block(block, 'b');
            for (int left = loom.block(block, 'o'); left > 0;) {
                int head = loom.byteAt(0, at);
                int kind = head >> 3;
                int length = kind == 11 ? 3 : kind >= 1 && kind <= 4 ? 2 : 1;
                if (kind == 11) {
                    int to = at + 3 + (short) (loom.byteAt(0, at + 1) << 8 | loom.byteAt(0, at + 2));
                    addLong(88, newBegin(to));
                } else if (head != 0) {
                    for (int index = 0; index < length; index++) code.add(loom.byteAt(0, at + index));
                }
                if (head != 0) left--;
                at += length;
            }
            char end = loom.endOf(block);
            int slots = loom.block(block, 's');
            int first = loom.successor(block, 0);
            int last = loom.successor(block, slots - 1);
            while (end != 'g' && end != 'c' && loom.byteAt(0, at) == 0) at++;
            if (end == 'w') code.add(loom.byteAt(0, at));
            if (end == 'w') code.add(loom.byteAt(0, at + 1));
            if (end == 'r' || end == 'h' || end == 't') code.add(loom.byteAt(0, at));
            int register = end == 'c' ? loom.block(block, 'r') : 0;
            if (end == 'c' && first != last) {
                if (last == next) jump(block, 'z', register, first, misfits);
                else if (first == next) jump(block, 'y', register, last, misfits);
                else {
                    jump(block, 'z', register, first, misfits);
                    jump(block, 'j', 0, last, misfits);
                }
            } else if ((end == 'g' || end == 'c' || end == 'w') && last != next) {
                jump(block, 'j', 0, last, misfits);
            }
        }

        private int newBegin(int oldBegin) {
            for (int function = 0; function < 8; function++) {
                int number = function;
                if (!Dues.of(() -> loom.begins(0, number)).equals(oldBegin)) continue;
                String first = Looms.order(loom, loom.same(function)).split(" ")[0];
                return addresses.get(Integer.parseInt(first));
            }
            throw new AssertionError("no function at " + oldBegin);
        }

        private void jump(int block, char sign, int register, int to, List<String> misfits) {
            String name = block + " " + sign;
            boolean isLongNow = isLong.containsKey(name);
            if (isLongNow) {
                addLong(sign == 'z' ? 64 + register : sign == 'y' ? 72 + register : 81, addresses.get(to));
                return;
            }
            int way = addresses.get(to) - (code.size() + 2);
            if (misfits != null && (way < -128 || way > 127)) misfits.add(name);
            code.add(sign == 'z' ? 48 + register : sign == 'y' ? 56 + register : 80);
            code.add(way & 255);
        }

        private void addLong(int head, int to) {
            int way = to - (code.size() + 3);
            code.add(head);
            code.add(way >> 8 & 255);
            code.add(way & 255);
        }
    }
}
