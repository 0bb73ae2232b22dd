/** Promises 39 to 42: threading, dropping and folding. */
final class AlteringTest {
    private static final Class<IndexOutOfBoundsException> BOUNDS = IndexOutOfBoundsException.class;
    private static final Class<UnsupportedOperationException> UNSUPPORTED = UnsupportedOperationException.class;

    public static void main(String[] args) {
        threading();
        dropping();
        droppingGuards();
        foldingAlike();
        foldingApart();
        foldingMore();
        foldsAsTold();
        dropsAsTold();
        forgetting();
        exceptions();
        Dues.close("AlteringTest");
    }

    private static void dueThreaded(String text, int changed, String want) {
        Blockloom loom = Looms.apart(text);
        Dues.due("threaded of " + text, changed, loom.thread());
        Dues.due("blocks of " + text, want, Looms.blocks(loom));
        Dues.due("threaded again " + text, 0, loom.thread());
    }

    private static void threading() {
        dueThreaded("F d1 z1,0 L1 j2 L0 j1 L2 p1 h", 3, "0@0 d>c1 3 3; 1@4 > 3; 2@7 > 3; 3@10 p>h -1");
        dueThreaded("F z1,0 p1 h L0 j1 L1 j0", 0, "0@0 >c1 2 1; 1@3 p>h -1; 2@5 > 3; 3@8 > 2");
        dueThreaded("F z1,0 h L0 j0", 0, "0@0 >c1 2 1; 1@3 >h -1; 2@4 > 2");
        dueThreaded("F j2 L0 j1 L1 j0 L2 j0", 0, "0@0 > 3; 1@3 > 2; 2@6 > 1; 3@9 > 1");
        dueThreaded("F L0 n n L1 p1 w1,0 j1 T0,0 T0,1", 2, "0@0 > 1; 1@2 p>w1 1 1 1; 2@5 > 1");
        dueThreaded("F L0 z1,0 j1 L2 p1 L1 j2", 3, "0@0 >c1 0 2; 1@3 > 2; 2@6 p> 2; 3@7 > 2");
        dueThreaded("F L0 p1 j1 L1 n j0", 1, "0@0 p> 0; 1@4 > 0");
        Blockloom loom = Looms.apart("F z1,0 h L0 n j1 L1 p1 h");
        loom.train(1);
        loom.thread();
        Dues.due("counts stay", "1/1 0; 0; 1; 1", Looms.counts(loom, false));
        loom = Looms.apart("F L0 c1 L1 h L2 n L3 p0 h G0,1,2 G2,3,3 F t1");
        loom.thread();
        Dues.due("guards are no slots", "0@0 c> 1 ^2; 1@3 >h -1; 2@4 > 3 ^3; 3@5 p>h -1; 4@7 >t -1",
            Looms.blocks(loom));
    }

    private static void dueDropped(String text, int taken, String want) {
        Blockloom loom = Looms.apart(text);
        Dues.due("dropped of " + text, taken, loom.drop());
        Dues.due("blocks of " + text, want, Looms.blocks(loom));
        Dues.due("dropped again " + text, 0, loom.drop());
    }

    private static void dropping() {
        dueDropped("F p1 h p2 h p3 L0 j0", 3, "0@0 p>h -1");
        dueDropped("F j0 L1 p1 h L0 j1", 0, "0@0 > 2; 1@3 p>h -1; 2@5 > 1");
        dueDropped("F w1,0 h L0 p1 h L1 p2 h p3 h T0,0 T0,1 F r", 1,
            "0@0 >w1 2 3 1; 1@2 >h -1; 2@3 p>h -1; 3@5 p>h -1; 5@9 >r -1");
        dueDropped("F h L0 L1 j0 F h L2 z1,2 h", 3, "0@0 >h -1; 2@4 >h -1");
    }

    private static void droppingGuards() {
        dueDropped("F L0 p1 L1 h L2 p2 h G0,1,2", 1, "0@0 p> 1; 1@1 >h -1");
        dueDropped("F L0 c0 L1 h L2 p2 h G0,1,2", 0, "0@0 c> 1 ^2; 1@3 >h -1; 2@4 p>h -1");
        dueDropped("F L0 f1 L1 h L2 p2 h G0,1,2", 0, "0@0 f> 1 ^2; 1@1 >h -1; 2@2 p>h -1");
        dueDropped("F L0 t1 L1 h L2 p2 h G0,1,2", 1, "0@0 >t -1 ^2; 2@2 p>h -1");
        dueDropped("F L0 p1 h L1 t1 L2 t2 L3 h G0,1,1 G1,2,2 G2,3,3", 3, "0@0 p>h -1");
        dueDropped("F L0 c0 h L1 t1 L2 t2 L3 h G0,1,1 G1,2,2 G2,3,3", 0,
            "0@0 c>h -1 ^1; 1@4 >t -1 ^2; 2@5 >t -1 ^3; 3@6 >h -1");
        dueDropped("F h L0 t1 L1 p1 h G0,1,1", 2, "0@0 >h -1");
        dueDropped("F L0 p1 h L1 t0 L2 h G0,1,1 G1,2,2", 2, "0@0 p>h -1");
        dueDropped("F L0 p1 L1 c0 h L2 h G0,1,2", 1, "0@0 p> 1; 1@1 c>h -1");
        dueDropped("F j0 L1 h L0 c0 L2 r L3 j3 G0,2,1", 1, "0@0 > 2; 1@3 >h -1; 2@4 c> 3 ^1; 3@7 >r -1");
    }

    private static void dueFolded(String text, int folded, String same) {
        Blockloom loom = Looms.apart(text);
        Dues.due("folded of " + text, folded, loom.fold());
        StringBuilder got = new StringBuilder();
        for (String word = ""; !Dues.of(() -> loom.same(got.length())).equals("throws IndexOutOfBoundsException");) {
            got.append(word).append(loom.same(got.length()));
        }
        Dues.due("same of " + text, same, got.toString());
        for (int block = 0; block < loom.blocks(); block++) {
            boolean isThere = loom.isThere(block);
            if (isThere) Dues.due("not of a folded one", true, loom.same(loom.block(block, 'f')) == loom.block(block, 'f'));
        }
        Dues.due("folded again " + text, 0, loom.fold());
    }

    private static void foldingAlike() {
        dueFolded("F c1 c2 h F p1 r F p1 r", 1, "011");
        dueFolded("F p1 r F p1 r F p1 r", 2, "000");
        dueFolded("F h F c2 r F c1 r", 1, "011");
        dueFolded("F h F c1 r F c2 r", 1, "011");
        dueFolded("F h F c3 r F c4 r F p1 r F n p1 n r", 2, "01133");
        dueFolded("F h F z1,0 p1 r L0 p2 r F y1,0 p2 r L0 p1 r", 1, "011");
        dueFolded("F h F L0 p1 j0 F L0 p1 n j0", 1, "011");
        dueFolded("F h F L0 p1 L1 j0 F L0 p1 j1 L1 j0", 0, "012");
        dueFolded("F h F L0 t1 L1 r G0,1,1 F L0 n t1 L1 r G0,1,1", 1, "011");
        dueFolded("F h F w1,0 r L0 p1 r T0,0 F w1,1 r L0 p1 r T1,0", 1, "011");
        dueFolded("F h F L0 y1,1 p2 j0 L1 r F L0 y1,1 p2 j2 L2 y1,1 p2 j0 L1 r", 1, "011");
        dueFolded("F c0 h F c1 h F c0 h", 2, "000");
        dueFolded("F h F r F r F f1 r F f1 r", 2, "01133");
        dueFolded("F h F s1,5 r F s1,5 r", 1, "011");
    }

    private static void foldingApart() {
        String[] different = {"p1 r/p2 r", "p1 r/d1 r", "p1 h/p1 r", "t1/t2", "z1,0 L0 r/z2,0 L0 r", "z1,0 p1 r L0 r/y1,0 p1 r L0 r",
            "s1,4 r/s1,5 r", "a1,2 r/a1,3 r", "c0 r/c3 r", "p1 p1 r/p1 r", "p1 j0 L0 r/p1 r",
            "L0 t1 L1 r G0,1,1/L0 t1 L1 r", "L0 t1 L1 r L2 p1 r G0,1,1/L0 t1 L1 r L2 p1 r G0,1,2",
            "w1,0 r L0 r T0,0/w1,1 r L0 r T1,0 T1,0", "w1,0 r L0 r T0,0/w2,1 r L0 r T1,0", "p1 d1 r/d1 p1 r"};
        for (String pair : different) {
            String[] two = pair.split("/");
            dueFolded("F m1,1 h F " + two[0] + " F " + two[1] + " F h", 0, "0123");
        }
        dueFolded("F h F c3 r F c4 r F p1 r F p2 r", 0, "01234");
    }

    private static void foldingMore() {
        Blockloom loom = Looms.apart("F c1 c2 h F j0 L0 p1 r F p1 r");
        Dues.due("not alike", 0, loom.fold());
        Dues.due("threaded", 0, loom.thread());
        loom = Looms.apart("F c1 c2 h F p1 r p2 r F p1 r p3 r");
        Dues.due("what can not be come to tells not apart", 1, loom.fold());
        loom = Looms.apart("F L0 p1 r L1 t1 G0,1,1 F p1 r F p1 r");
        Dues.due("2 is 1", 1, loom.fold());
        loom.drop();
        Dues.due("1 is 0", 1, loom.fold());
        Dues.due("and so is 2", 0, loom.same(2));
        loom.make(1, false);
        Dues.due("all of them begin there", 0, loom.begins(1, 2) + loom.begins(1, 1));
        loom = Looms.apart("F c1 c2 h F L0 p1 r L1 G0,1,2 L2 t1 F p1 r");
        Dues.due("a guard tells apart", 0, loom.fold());
        loom.drop();
        Dues.due("without guard", 1, loom.fold());
        Dues.due("left", "0@0 cc>h -1; 1@7 p>r -1", Looms.blocks(loom));
        Dues.due("nothing more to drop", 0, loom.drop());
        loom.make(1, false);
        Dues.due("new bytes", "88 0 4 88 0 1 83 41 82", Looms.bytes(loom, 1));
        Dues.due("begin of a folded one", 7, loom.begins(1, 2));
    }

    /** Short functions, some of them drawn from few operations, so that many are alike. */
    private static void foldsAsTold() {
        Drafts drafts = new Drafts(41L);
        String[] ops = {"p1", "c1", "c2", "c3", "n", "c4", "y1,0", "z1,0", "f1", "t1"};
        int folded = 0;
        for (int round = 0; round < 2000; round++) {
            StringBuilder text = new StringBuilder("F c1 h");
            for (int function = 1; function < 7; function++) {
                text.append(" F");
                int many = drafts.below(4);
                int label = drafts.below(many + 1);
                for (int place = 0; place < many; place++) {
                    text.append(place == label ? " L0 " : " ").append(ops[drafts.below(ops.length)]);
                }
                text.append(label == many ? " L0 r L1" : " r L1");
                if (drafts.below(6) == 0) text.append(" G0,1,0");
            }
            Blockloom loom = Looms.apart(text.toString());
            for (int step = drafts.below(3); step > 0; step--) {
                if (drafts.below(2) == 0) loom.drop();
                else loom.thread();
            }
            int[] want = same(loom, 7);
            int many = 0;
            for (int function = 0; function < 7; function++) if (want[function] != function) many++;
            folded += many;
            Dues.due("folded of " + text, many, loom.fold());
            for (int each = 0; each < 7; each++) Dues.due("same of " + each + " of " + text, want[each], loom.same(each));
        }
        Dues.due("enough were folded", true, folded > 1000);
    }

    private static int[] same(Blockloom loom, int functions) {
        int[] same = new int[functions];
        for (int function = 0; function < functions; function++) {
            same[function] = function;
            for (int other = function - 1; other >= 0; other--) {
                java.util.Set<String> pairs = new java.util.TreeSet<>();
                if (arePairs(loom, first(loom, function), first(loom, other), pairs)) same[function] = other;
            }
        }
        return same;
    }

    private static int first(Blockloom loom, int function) {
        for (int block = 0; block < loom.blocks(); block++) {
            if (loom.isThere(block) && loom.block(block, 'b') == loom.begins(0, function)) return block;
        }
        throw new AssertionError();
    }

    private static boolean arePairs(Blockloom loom, int one, int two, java.util.Set<String> pairs) {
        if (one < 0 || two < 0) return one == two;
        if (!pairs.add(one + " " + two)) return true;
        if (loom.endOf(one) != loom.endOf(two) || loom.block(one, 's') != loom.block(two, 's')) return false;
        if (loom.block(one, 'r') != loom.block(two, 'r') || loom.block(one, 'o') != loom.block(two, 'o')) return false;
        int at = loom.block(one, 'b');
        int other = loom.block(two, 'b');
        for (int index = 0; index < loom.block(one, 'o'); index++) {
            if (loom.opAt(one, index) != loom.opAt(two, index)) return false;
            while (loom.byteAt(0, at) == 0) at++;
            while (loom.byteAt(0, other) == 0) other++;
            if (loom.opAt(one, index) == 'c') {
                int callee = first(loom, calleeAt(loom, at));
                if (!arePairs(loom, callee, first(loom, calleeAt(loom, other)), pairs)) return false;
                at += 2;
                other += 2;
            }
            at++;
            other++;
        }
        for (int slot = 0; slot < loom.block(one, 's'); slot++) {
            if (!arePairs(loom, loom.successor(one, slot), loom.successor(two, slot), pairs)) return false;
        }
        return arePairs(loom, loom.block(one, 'g'), loom.block(two, 'g'), pairs);
    }

    private static int calleeAt(Blockloom loom, int at) {
        int to = at + 3 + (short) (loom.byteAt(0, at + 1) << 8 | loom.byteAt(0, at + 2));
        for (int function = 0; function < 8; function++) if (loom.begins(0, function) == to) return function;
        throw new AssertionError();
    }

    private static void dropsAsTold() {
        Drafts drafts = new Drafts(43L);
        for (int round = 0; round < 1000; round++) {
            String text = drafts.draw(3, 20);
            Blockloom loom = Looms.apart(text);
            if (drafts.below(3) == 0) loom.thread();
            java.util.Set<Integer> come = new java.util.TreeSet<>();
            for (int each = 0; Dues.of(begin(loom, each)) instanceof Integer; each++) {
                comeTo(loom, first(loom, each), come);
            }
            Dues.due("dropped of " + text, loom.blocks() - come.size(), loom.drop());
            for (int block = 0; block < loom.blocks(); block++) {
                Dues.due("there " + block + " of " + text, come.contains(block), loom.isThere(block));
            }
        }
    }

    private static Dues.Call begin(Blockloom loom, int function) {
        return () -> loom.begins(0, function);
    }

    private static void comeTo(Blockloom loom, int block, java.util.Set<Integer> come) {
        if (block < 0 || !come.add(block)) return;
        boolean mayThrow = loom.endOf(block) == 't';
        for (int index = 0; index < loom.block(block, 'o'); index++) {
            if (loom.opAt(block, index) == 'c' || loom.opAt(block, index) == 'f') mayThrow = true;
        }
        for (int slot = 0; slot < loom.block(block, 's'); slot++) comeTo(loom, loom.successor(block, slot), come);
        if (mayThrow) comeTo(loom, loom.block(block, 'g'), come);
    }

    private static void forgetting() {
        String text = "F d1 z1,0 p1 j1 L0 p2 L1 h n h F r F r";
        for (int way = 0; way < 3; way++) {
            Blockloom loom = Looms.apart(text);
            loom.feed(0);
            loom.count(5, -1, 7);
            loom.count(5, 0, 7);
            loom.train(1);
            for (int function = 0; function < 3; function++) {
                loom.letFlow(function);
                loom.order(function);
            }
            Dues.due("ordered", "0 2 3 1 4", Looms.order(loom, 0));
            loom.place();
            Dues.due("placed", "1 0 2", Looms.placed(loom));
            if (way == 0) loom.thread();
            else if (way == 1) loom.drop();
            else loom.fold();
            Dues.due("no flows", false, Looms.counts(loom, true).matches(".*[1-9].*"));
            Dues.due("as read", way == 1 ? "0 1 2 3" : "0 1 2 3 4", Looms.order(loom, 0));
            Dues.due("by numbers", way == 2 ? "0 1" : "0 1 2", Looms.placed(loom));
            Dues.due("counts stay", 7, loom.counted(5, 0));
            Dues.due("sound", true, loom.isSound());
        }
    }

    private static void exceptions() {
        Blockloom loom = Looms.linked("F p1 h");
        Dues.refused("thread", UNSUPPORTED, loom::thread);
        Dues.refused("drop", UNSUPPORTED, loom::drop);
        Dues.refused("fold", UNSUPPORTED, loom::fold);
        Dues.refused("same", UNSUPPORTED, () -> loom.same(-1));
        loom.apart();
        Dues.refused("same -1", BOUNDS, () -> loom.same(-1));
        Dues.refused("same 1", BOUNDS, () -> loom.same(1));
        Dues.due("same 0", 0, loom.same(0));
        loom.poke(0, 128);
        loom.apart();
        Dues.refused("thread with a fault", UNSUPPORTED, loom::thread);
        Dues.refused("drop with a fault", UNSUPPORTED, loom::drop);
        Dues.refused("fold with a fault", UNSUPPORTED, loom::fold);
    }
}
