import java.util.NoSuchElementException;

/** Part 4 and the promises 24 to 32, sentence by sentence: what was taken apart. */
final class ApartSentencesTest {
    private static final Class<NoSuchElementException> NONE = NoSuchElementException.class;
    private static final int[] FAR = {-1, Integer.MIN_VALUE, Integer.MAX_VALUE};

    public static void main(String[] args) {
        Sentences.openPart(4);
        Sentences.openPromises(24, 32);
        reading();
        faultsOfOperations();
        faultsOfJumps();
        faultsOfCalls();
        faultsOfSwitches();
        faultsOfEnds();
        faultsOfGuards();
        guardsInPieces();
        withoutPiece();
        begins();
        contents();
        blocksEnds();
        guards();
        promiseApart();
        promiseFault();
        promiseBlocks();
        promiseBlock();
        promiseEndOf();
        promiseSuccessor();
        Sentences.close("ApartSentencesTest");
    }

    /** Links a draft, and sets bytes: addresses, each with its value. */
    private static Blockloom poked(String text, int... pokes) {
        Blockloom loom = Looms.linked(text);
        for (int index = 0; index < pokes.length; index += 2) loom.poke(pokes[index], pokes[index + 1]);
        return loom;
    }

    private static String fault(Blockloom loom) {
        int blocks = loom.apart();
        if (blocks >= 0) return loom.fault() + "" + Dues.of(loom::faultAt).equals("throws NoSuchElementException");
        return loom.fault() + "" + loom.faultAt();
    }

    private static void dueFault(String want, String text, int... pokes) {
        Dues.due("fault of " + text + " " + java.util.Arrays.toString(pokes), want, fault(poked(text, pokes)));
    }

    private static void dueNone(String text, int... pokes) {
        dueFault("-true", text, pokes);
    }

    private static void dueBlocks(String text, String want) {
        Dues.due("blocks of " + text, want, Looms.blocks(Looms.apart(text)));
    }

    private static void reading() {
        Sentences.part(4, "The old image is taken apart:", () -> {
            Blockloom loom = Looms.apart("F z1,0 p1 L0 n h");
            loom.make(1, false);
            Dues.due("blocks of the old one", 3, loom.apart());
            Dues.due("begin in the old one", 5, loom.block(2, 'b') + 1);
            Dues.due("bytes of the old one", 6, loom.size(0));
        });
        Sentences.part(4, "pieces are read by addresses, from the first byte on, operation by operation.", () -> {
            dueNone("F s1,255 s1,80 s1,83 h");
            dueBlocks("F s1,80 s1,82 h", "0@0 ss>h -1");
            Blockloom loom = Looms.apart("F h F h");
            loom.make(4, false);
            loom.adopt();
            for (int address = 1; address < 4; address++) loom.poke(address, 255);
            Dues.due("what is in no piece is not read", "-true", fault(loom));
            dueFault("o1", "F p1 p1 h F p1 h", 1, 200, 3, 200);
            dueFault("o3", "F p1 p1 h F p1 h", 3, 200);
        });
    }

    private static void faultsOfOperations() {
        Sentences.part(4, "A fault is told by a letter and an address: 'o', where no operation is,", () -> {
            dueFault("o0", "F h", 0, 128);
            dueFault("o1", "F p1 h", 1, 255);
            dueFault("o2", "F p1 h F r", 2, 1);
            dueFault("o0", "F a1,1 h", 1, 8);
            dueNone("F a1,1 h", 1, 7);
        });
        Sentences.part(4, "or one that ends behind its piece;", () -> {
            dueFault("o1", "F p1 h F r r", 1, 9);
            dueFault("o1", "F p1 h", 1, 9);
            dueFault("o0", "F p1 h F r r", 0, 81);
            dueFault("o1", "F p1 h F r r", 1, 88);
            dueFault("o2", "F p1 p1 h F r r", 2, 80);
            dueFault("e1", "F p1 p1 h F r r", 1, 9);
            dueNone("F p1 h F r r", 0, 80, 1, 254);
        });
    }

    private static void faultsOfJumps() {
        Sentences.part(4, "then, without these, by addresses of operations", () -> {
            dueFault("o5", "F j0 h n L0 F n r", 5, 200);
            dueFault("j0", "F j0 h L0 F c0 r", 6, 1);
            dueFault("c0", "F c0 j0 h L0", 2, 254);
            dueFault("w0", "F w0,0 j0 L0");
            dueFault("j0", "F j0 w0,0 h L0");
            dueFault("c2", "F s1,1 c0 w0,0 n", 4, 0);
            dueFault("j0", "F j0 p1 L0 L1 G0,0,0", 2, 9);
        });
        Sentences.part(4, "'j', a jump that does not go to an operation of its function,", () -> {
            dueFault("j0", "F j0 h L0 F h");
            dueFault("j1", "F h F L0 j0 r", 3, 252);
            dueFault("j0", "F z1,0 h L0");
            dueFault("j0", "F y1,0 s1,1 L0 h", 2, 1);
            dueFault("j3", "F L0 j0 z1,0 h", 5, 251);
            dueFault("j0", "F L0 j0", 1, 255, 2, 252);
            dueFault("j0", "F L0 j0", 1, 0, 2, 0);
            dueFault("j0", "F L0 j0", 1, 127, 2, 255);
            dueFault("j0", "F L0 j0", 1, 128, 2, 0);
            dueFault("j0", "F n h", 0, 80, 1, 0);
            dueFault("j0", "F n h", 0, 80, 1, 128);
            dueNone("F n h", 0, 80, 1, 254);
            Blockloom loom = Looms.apart("F j0 L0 p1 j0 F h");
            loom.make(8, false);
            loom.adopt();
            Dues.due("the begin of a padding", "j1", fault(poked(loom, 2, 1)));
            Dues.due("itself", "-true", fault(poked(loom, 2, 254)));
        });
        Sentences.part(4, "operation of its function", () -> {
            Blockloom loom = Looms.apart("F z1,0 p1 h L0 p2 h F h");
            loom.count(0, 0, 1);
            loom.count(0, -1, 1);
            loom.count(2, 0, 1);
            loom.letFlow(0);
            loom.make(1, true);
            Dues.due("two pieces", "0:0-4 1:4-5 0:5-7", Looms.pieces(loom, 1));
            loom.adopt();
            Dues.due("a jump to its second piece", "-true", fault(loom));
        });
    }

    private static Blockloom poked(Blockloom loom, int address, int value) {
        loom.poke(address, value);
        return loom;
    }

    private static void faultsOfCalls() {
        Sentences.part(4, "'c', a call that does not go to where a function begins,", () -> {
            dueFault("c0", "F c1 h F p1 r", 2, 0);
            dueFault("c0", "F c1 h F p1 r", 2, 2);
            dueFault("c0", "F c1 h F p1 r", 2, 3);
            dueFault("c0", "F c1 h F p1 r", 1, 255);
            dueFault("c0", "F c1 h F p1 r", 1, 128);
            dueFault("c0", "F c1 h F p1 r", 1, 127);
            dueNone("F c1 h F p1 r", 1, 255, 2, 253);
            dueNone("F c1 h F p1 r");
            Blockloom loom = Looms.apart("F c1 c2 h F r F r");
            loom.fold();
            loom.make(1, false);
            loom.adopt();
            Dues.due("where two begin", "-true", fault(loom));
        });
    }

    private static void faultsOfSwitches() {
        Sentences.part(4, "'w', a switch by a table without addresses, or above 3,", () -> {
            dueFault("w0", "F w0,0 h");
            dueFault("w1", "F p1 w0,3 L0 h T2,0");
            dueNone("F p1 w0,3 L0 h T3,0");
            for (int table : new int[] {4, 128, 255}) dueFault("w0", "F L0 w0,3 h T0,0 T1,0 T2,0 T3,0", 1, table);
            for (int table = 0; table < 4; table++) dueNone("F L0 w0,3 h T0,0 T1,0 T2,0 T3,0", 1, table);
        });
        Sentences.part(4, "or that a switch of another function uses ahead,", () -> {
            dueFault("w3", "F w0,0 L0 h T0,0 F w0,0 r");
            dueNone("F L0 w0,0 w1,0 h T0,0 F L0 w0,1 r T1,0");
            dueFault("w0", "F w0,0 h F L0 w0,0 r T0,0");
            dueFault("w5", "F w0,0 L0 h T0,0 F L0 w0,1 w0,0 r T1,0");
        });
        Sentences.part(4, "or that has an address that is no operation of its function;", () -> {
            dueFault("w0", "F w0,0 h L0 T0,0");
            dueFault("w0", "F w0,0 h L0 T0,0 F r");
            dueFault("w0", "F L1 w0,0 h L0 T0,1 T0,1 T0,1 T0,1 T0,0");
            dueFault("w1", "F h F p1 r L0 T0,0", 1, 96, 2, 0);
            dueFault("w2", "F L0 p1 L1 p1 w0,0 h T0,0 T0,1", 0, 9);
            dueNone("F L0 p1 p1 L1 w0,0 h T0,0 T0,1", 0, 9);
        });
    }

    private static void faultsOfEnds() {
        Sentences.part(4, "then 'e', at the last operation of a piece, if it is none of 'j', 'r', 'h' and 't';", () -> {
            for (String end : "s1,1 a1,1 b1,1 m1,1 p1 d1 f1 n z1,0 y1,0 c0".split(" ")) {
                dueFault("e1", "F L0 h " + end);
                dueFault("e2", "F h F L0 h " + end + " F h");
            }
            dueFault("e0", "F L0 w1,0 T0,0");
            for (String end : "j0 r h t1".split(" ")) dueNone("F L0 " + end);
            dueNone("F h", 0, 107);
            dueNone("F L0 n n", 0, 80, 1, 254);
            dueFault("e2", "F r p1 p1 F p1");
            dueFault("c1", "F p1 F c0", 3, 1);
            dueFault("e0", "F L0 p1 G0,0,0 F r");
        });
    }

    private static void faultsOfGuards() {
        String words = "then 'g', at from, of the first guard, by their order, of which from or at is no operation,";
        Sentences.part(4, words, () -> {
            dueFault("g2", "F p1 h L0 L1 G0,1,0");
            dueFault("g1", "F p1 L0 p1 h L1 G0,1,0", 0, 9);
            dueFault("g0", "F L0 p1 h L1 G0,1,1");
            dueFault("g0", "F L0 p1 p1 L1 h h L2 G0,2,1", 1, 9);
            dueFault("g2", "F L0 p1 h L1 h L2 G0,1,0 G1,2,2 G0,1,2 G0,0,0");
            dueFault("g0", "F L0 p1 h L1 h L2 G0,1,0 G0,0,0 G1,2,2");
        });
        Sentences.part(4, "or up to neither one nor the end of a piece,", () -> {
            dueFault("g0", "F L0 p1 p1 L1 p1 h G0,1,0", 1, 9);
            dueNone("F L0 p1 p1 L1 p1 h G0,1,0");
            dueNone("F L0 p1 h L1 G0,1,0");
            dueNone("F L0 p1 h L1 G0,1,0 F r");
            Blockloom loom = Looms.apart("F L0 p1 h L1 G0,1,0 F r");
            loom.make(8, false);
            loom.adopt();
            Dues.due("the end ahead of a padding", "-true", fault(loom));
        });
        Sentences.part(4, "or that has not from below up to,", () -> {
            dueFault("g0", "F L0 p1 L1 h G0,0,0");
            dueFault("g1", "F L0 p1 L1 h G1,0,0");
            dueFault("g1", "F L0 p1 L1 h G1,1,1");
            dueNone("F L0 p1 L1 h G0,1,1");
        });
    }

    private static void guardsInPieces() {
        Sentences.part(4, "both of one piece,", () -> {
            Blockloom loom = Looms.apart("F d1 L0 z1,1 c1 r L1 c1 h L2 L3 p0 h G0,2,3 F r");
            loom.train(1);
            loom.letFlow(0);
            loom.make(1, true);
            Dues.due("two pieces", "0:0-7 1:7-8 0:8-14", Looms.pieces(loom, 1));
            Dues.due("a guard in each", "1-7^12 8-12^12", Looms.guards(loom, 1));
            loom.adopt();
            Dues.due("each is of one piece", "-true", fault(loom));
            dueNone("F L0 p1 h L1 G0,1,0 F L0 p1 h L1 G0,1,0");
        });
        Sentences.part(4, "and at in the function of that.", () -> {
            dueFault("g0", "F L0 p1 L1 h L2 G0,1,2 F p1 r");
            dueFault("g1", "F h F L0 p1 L1 h L2 G0,1,2 F p1 r");
            dueNone("F L0 p1 L1 h G0,1,0");
            Blockloom loom = Looms.apart("F L0 c1 L2 p1 h L1 p2 h G0,2,1 F z1,0 t1 L0 r");
            loom.train(1);
            for (int function = 0; function < 2; function++) loom.letFlow(function);
            loom.make(1, true);
            Dues.due("in another piece", "0:0-5 1:5-8 0:8-10 1:10-11", Looms.pieces(loom, 1));
            loom.adopt();
            Dues.due("of its function", "-true", fault(loom));
            Dues.due("guard", "0-3^8", Looms.guards(loom, 0));
        });
    }

    private static void withoutPiece() {
        Sentences.part(4, "A function without a piece is the same as the least one that begins where it does, and has no blocks.", () -> {
            Blockloom loom = Looms.apart("F c1 c2 c3 c4 h F p1 r F p2 r F p1 r F p2 r");
            loom.fold();
            loom.make(1, false);
            loom.adopt();
            Dues.due("blocks", 3, loom.apart());
            int[] same = {0, 1, 2, 1, 2};
            for (int function = 0; function < 5; function++) Dues.due("same " + function, same[function], loom.same(function));
            for (int each = 3; each < 5; each++) {
                int function = each;
                Dues.refused("no order", IndexOutOfBoundsException.class, () -> loom.order(function));
                Dues.refused("no flow", IndexOutOfBoundsException.class, () -> loom.letFlow(function));
                Dues.refused("no gain", IndexOutOfBoundsException.class, () -> loom.gain(function));
            }
            Dues.due("placed", "0 1 2", Looms.placed(loom));
            for (int block = 0; block < 3; block++) Dues.due("function of " + block, block, loom.block(block, 'f'));
            Blockloom zero = Looms.apart("F p1 r F p1 r F p1 r");
            zero.fold();
            zero.make(1, false);
            Dues.due("apart anew with pieces", 3, zero.apart());
            Dues.due("none is the same", "1 2", zero.same(1) + " " + zero.same(2));
            zero.adopt();
            Dues.due("one block", 1, zero.apart());
            Dues.due("the same as 0", "0 0", zero.same(1) + " " + zero.same(2));
        });
    }

    private static void begins() {
        Sentences.part(4, "A block begins where a piece does,", () -> dueBlocks("F p1 h F p2 h", "0@0 p>h -1; 1@2 p>h -1"));
        Sentences.part(4, "where a jump, a table of a switch, or a guard tells an address of an operation,", () -> {
            dueBlocks("F p1 L0 p2 L1 p3 j0", "0@0 p> 1; 1@1 pp> 1");
            dueBlocks("F p1 L0 p2 L1 p3 z2,1 h", "0@0 pp> 1; 1@2 p>c2 1 2; 2@6 >h -1");
            dueBlocks("F p1 L0 p2 L1 p3 w2,1 h T1,1 T2,0", "0@0 pp> 1; 1@2 p>w2 1 2; 2@5 >h -1");
            dueBlocks("F p1 L0 p2 L1 p3 h T1,1 T2,0", "0@0 ppp>h -1");
            dueBlocks("F s1,1 a1,2 L0 p2 L1 p3 h T1,1 T2,0", "0@0 sapp>h -1");
            dueBlocks("F p1 L0 p2 L1 p3 L2 p4 h G0,1,2", "0@0 p> 1; 1@1 p> 2 ^3; 2@2 p> 3; 3@3 p>h -1");
            dueBlocks("F p1 L0 p2 L1 p3 p4 h L2 G0,2,0", "0@0 p> 1; 1@1 ppp>h -1 ^1");
            dueBlocks("F p1 c1 p2 h F r", "0@0 pcp>h -1; 1@6 >r -1");
        });
        Sentences.part(4, "and behind each 'z', 'y', 'j', 'w', 't', 'r' and 'h'.", () -> {
            for (String end : "z1,0 y1,0 j0 w1,0 t1 r h".split(" ")) {
                Dues.due("behind " + end, 2, Looms.apart("F L0 p1 " + end + " p2 h T0,0").blocks());
            }
            for (String op : "s1,1 a1,1 b1,1 m1,1 p1 d1 c0 f1 n".split(" ")) {
                Dues.due("not behind " + op, 1, Looms.apart("F p1 " + op + " p2 h").blocks());
            }
        });
        Sentences.part(4, "Blocks are numbered from 0 by addresses;", () -> {
            Blockloom loom = Looms.apart("F j1 L0 h L1 p1 j0 F r F r");
            int[] begins = {0, 3, 4, 8, 9};
            for (int block = 0; block < 5; block++) Dues.due("begin", begins[block], loom.block(block, 'b'));
        });
        Sentences.part(4, "the first block of a function is that at which it begins.", () -> {
            Blockloom loom = Looms.apart("F p1 h F L0 p1 j0 F r");
            for (int function = 0; function < 3; function++) {
                int block = loom.orderAt(function, 0);
                Dues.due("begin", loom.begins(0, function), loom.block(block, 'b'));
                Dues.due("it has a way in", 0, loom.counted(block, -1));
            }
        });
    }

    private static void contents() {
        Sentences.part(4, "A block has its operations but 'n', jumps, and those of its end, that end, and successors, by slots:", () -> {
            dueBlocks("F n s1,1 n n p1 n h", "0@0 sp>h -1");
            dueBlocks("F n n j0 L0 n L1 j1", "0@0 > 1; 1@5 > 2; 2@6 > 2");
            dueBlocks("F s1,1 a1,1 b1,1 m1,1 p1 d1 c0 f1 n t1", "0@0 sabmpdcf>t -1");
            dueBlocks("F n h", "0@0 >h -1");
        });
    }

    private static void blocksEnds() {
        Sentences.part(4, "the end 'g' goes on to the slot 0;", () -> {
            dueBlocks("F p1 L0 p2 j0", "0@0 p> 1; 1@1 p> 1");
            dueBlocks("F j0 h L0 r", "0@0 > 2; 1@3 >h -1; 2@4 >r -1");
        });
        Sentences.part(4, "'c', by a register, goes to the slot 0 if that is 0, otherwise to the slot 1;", () -> {
            dueBlocks("F z7,0 h L0 r", "0@0 >c7 2 1; 1@3 >h -1; 2@4 >r -1");
            dueBlocks("F y0,0 h L0 r", "0@0 >c0 1 2; 1@3 >h -1; 2@4 >r -1");
            dueBlocks("F z3,0 L0 r", "0@0 >c3 1 1; 1@3 >r -1");
            dueBlocks("F L0 y3,0 r", "0@0 >c3 1 0; 1@3 >r -1");
        });
        Sentences.part(4, "'w' goes to the slots of its table, and then on to the last one;", () -> {
            dueBlocks("F L0 w5,3 L1 h T3,1", "0@0 >w5 1 1; 1@2 >h -1");
            dueBlocks("F L0 w5,3 L1 h T3,0 T3,1 T3,0 T3,0 T3,1", "0@0 >w5 0 1 0 0 1 1; 1@2 >h -1");
        });
        Sentences.part(4, "'r', 'h' and 't' have one slot, which is outside.", () -> {
            for (String end : "r h t1".split(" ")) {
                Blockloom loom = Looms.apart("F p1 " + end);
                Dues.due("slots of " + end, 1, loom.block(0, 's'));
                Dues.due("outside of " + end, -1, loom.successor(0, 0));
            }
        });
    }

    private static void guards() {
        Sentences.part(4, "The guard of a block is that of its first address.", () -> {
            String text = "F L0 p1 L1 p2 L2 p3 L3 p4 h";
            dueBlocks(text + " G0,2,3 G1,3,2", "0@0 p> 1 ^3; 1@1 p> 2 ^3; 2@2 p> 3 ^2; 3@3 p>h -1");
            dueBlocks(text + " G1,3,2 G0,2,3", "0@0 p> 1 ^3; 1@1 p> 2 ^2; 2@2 p> 3 ^2; 3@3 p>h -1");
            dueBlocks(text + " G1,2,0 G1,2,3", "0@0 p> 1; 1@1 p> 2 ^0; 2@2 p> 3; 3@3 p>h -1");
        });
    }

    private static void promiseApart() {
        Sentences.promise(24, "Takes the old image apart; all that was counted, altered and ordered goes.", () -> {
            Blockloom loom = Looms.apart("F d1 z1,0 p1 h L0 j1 L1 p2 h p3 h F r F r");
            String read = Looms.blocks(loom);
            loom.thread();
            loom.drop();
            loom.fold();
            loom.train(1);
            loom.letFlow(0);
            loom.count(0, 0, 9);
            loom.order(0);
            loom.count(5, -1, 50);
            loom.place();
            loom.make(1, false);
            Dues.due("apart", 7, loom.apart());
            Dues.due("as read", read, Looms.blocks(loom));
            Dues.due("no counts", "0/0 0; 0; 0; 0; 0; 0/0; 0/0", Looms.counts(loom, false));
            Dues.due("no flows", "0/0 0; 0; 0; 0; 0; 0/0; 0/0", Looms.counts(loom, true));
            Dues.due("orders", "0 1 2 3 4/5/6", Looms.order(loom, 0) + "/" + Looms.order(loom, 1) + "/" + Looms.order(loom, 2));
            Dues.due("functions", "0 1 2", Looms.placed(loom));
            Dues.due("none is folded", 2, loom.same(2));
            Dues.due("the new one stays", true, loom.size(1) > 0);
        });
        Sentences.promise(24, "Returns how many blocks there are, -1 with a fault.", () -> {
            Dues.due("one", 1, Looms.linked("F h").apart());
            Dues.due("fault", -1, Looms.linked("F n").apart());
            Dues.due("fault again", -1, Looms.faulty().apart());
            Blockloom most = Looms.linked("F h");
            StringBuilder text = new StringBuilder();
            for (int function = 0; function < 8; function++) {
                text.append(" F L0");
                for (int many = 0; many < 40; many++) text.append(" j0");
            }
            Looms.draft(most, "F");
            most.wipe();
            Looms.draft(most, text.toString());
            most.link();
            Dues.due("320", 320, most.apart());
            for (int address = 0; address < 960; address++) most.poke(address, 82);
            Dues.due("960", 960, most.apart());
            Dues.due("the last one", 7, most.block(959, 'f'));
            Dues.due("order of 120", 0, most.order(7));
            Dues.due("flows of 120", 0, most.letFlow(7));
            Dues.due("events", 2, most.train(1));
            Dues.due("folded", 7, most.fold());
            Dues.due("dropped", 119, most.drop());
            Dues.due("made", 1, most.make(1, true));
        });
        Sentences.promise(24, "Throws `NoSuchElementException` if it was not made", () -> {
            Sentences.refused(NONE, Blockloom::new, Blockloom::apart);
            Sentences.refused(NONE, () -> Looms.drafted("F h"), Blockloom::apart);
        });
    }

    private static void promiseFault() {
        Sentences.promise(25, "Returns the fault by which the old image is not apart.", () -> {
            String[] texts = {"F j0 h L0", "F w1,0 h", "F n", "F L0 h G0,0,0"};
            for (int index = 0; index < 4; index++) {
                Blockloom loom = Looms.linked(texts[index]);
                loom.apart();
                Dues.due("fault", "jweg".charAt(index), loom.fault());
            }
            Blockloom loom = poked("F c0 h", 2, 0);
            loom.apart();
            Dues.due("fault", 'c', loom.fault());
            loom.poke(0, 255);
            loom.apart();
            Dues.due("fault", 'o', loom.fault());
        });
        Sentences.promise(25, "Returns its letter, '-' if it was not taken apart, or has none.", () -> {
            Dues.due("new object", '-', new Blockloom().fault());
            Dues.due("not taken apart", '-', Looms.linked("F n").fault());
            Dues.due("has none", '-', Looms.full().fault());
            Blockloom loom = Looms.faulty();
            loom.poke(0, 255);
            Dues.due("poked", '-', loom.fault());
            loom.apart();
            Dues.due("apart again", 'o', loom.fault());
            loom.link();
            Dues.due("linked", '-', loom.fault());
            Blockloom made = Looms.full();
            made.adopt();
            Dues.due("adopted", '-', made.fault());
        });
        Sentences.promise(26, "Returns the address of that fault.", () -> {
            Blockloom loom = Looms.faulty();
            Dues.due("address", 2, loom.faultAt());
        });
        Sentences.promise(26, "Returns the address.", () -> {
            Blockloom loom = Looms.linked("F n");
            loom.apart();
            Dues.due("0", 0, loom.faultAt());
            Blockloom far = poked("F c1 h F r F j0 h L0", 0, 0, 1, 0, 2, 0);
            far.apart();
            Dues.due("the last function", 5, far.faultAt());
        });
        Sentences.promise(26, "Throws `NoSuchElementException` if there is none", () -> {
            Sentences.refused(NONE, Blockloom::new, Blockloom::faultAt);
            Sentences.refused(NONE, () -> Looms.linked("F n"), Blockloom::faultAt);
            Sentences.refused(NONE, Looms::full, Blockloom::faultAt);
            Sentences.refused(NONE, () -> poked(Looms.faulty(), 0, 0), Blockloom::faultAt);
        });
    }

    private static void promiseBlocks() {
        Sentences.promise(27, "Returns how many blocks there were as it was taken apart.", () -> {
            Dues.due("with those taken away", 4, Looms.takenAway().blocks());
            Dues.due("all", 9, Looms.full().blocks());
        });
        Sentences.promise(27, "Returns how many.", () -> Dues.due("one", 1, Looms.apart("F h").blocks()));
        Sentences.promise(27, "Throws `UnsupportedOperationException` if the old image is not apart without a fault", () ->
            Sentences.needsApart(Blockloom::blocks));
        Sentences.promise(28, "Tells whether a block was not taken away.", () -> {
            Blockloom loom = Looms.takenAway();
            Dues.due("there", "true false true false", loom.isThere(0) + " " + loom.isThere(1) + " " + loom.isThere(2) + " " + loom.isThere(3));
        });
        Sentences.promise(28, "`block`: its number", () -> {
            Blockloom loom = Looms.full();
            Dues.due("least, most", true, loom.isThere(0) && !loom.isThere(8));
        });
        Sentences.promise(28, "Returns whether it is there.", () -> {
            Blockloom loom = Looms.takenAway();
            loom.apart();
            for (int block = 0; block < 4; block++) Dues.due("all are", true, loom.isThere(block));
        });
        Sentences.promise(28, "Throws `UnsupportedOperationException` if the old image is not apart without a fault", () ->
            Sentences.needsApart(loom -> loom.isThere(0)));
        Sentences.promise(28, "Throws `IndexOutOfBoundsException` if there was no such block", () ->
            Sentences.needsBlock(Blockloom::isThere, false));
    }

    private static void promiseBlock() {
        Sentences.promise(29, "Tells something of a block.", () -> {
            Blockloom loom = Looms.apart("F p1 L0 c1 L1 p2 z5,0 h G0,1,1 F r");
            Dues.due("all of 1", "0 1 1 1 -1 2", told(loom, 1));
            Dues.due("all of 2", "0 4 1 2 5 -1", told(loom, 2));
            Dues.due("all of 4", "1 9 0 1 -1 -1", told(loom, 4));
        });
        Sentences.promise(29, "`block`: its number", () -> {
            Dues.due("least", 0, Looms.takenAway().block(0, 'b'));
            Dues.due("most", 2, Looms.takenAway().block(2, 'b') - 2);
        });
        Sentences.promise(29, "`what`: 'f' its function, 'b' the address at which it begins, 'o' how many operations it has, 's' how many "
            + "slots, 'r' the register of an end 'c' or 'w', 'g' where its guard is, a block", () -> {
                Blockloom loom = Looms.apart("F L0 w7,0 h T0,0 T0,0 T0,0 T0,0 T0,0 L1 G0,1,0");
                Dues.due("six slots", "0 0 0 6 7 0", told(loom, 0));
                StringBuilder text = new StringBuilder("F");
                for (int many = 0; many < 39; many++) text.append(" p1");
                Dues.due("39 operations", "0 0 39 1 -1 -1", told(Looms.apart(text + " h"), 0));
                Dues.due("register 0", 0, Looms.apart("F y0,0 L0 h").block(0, 'r'));
            });
        Sentences.promise(29, "Returns that, -1 if there is no such register, or guard.", () -> {
            for (String end : "r h t5 L0j0".split(" ")) {
                String text = end.equals("L0j0") ? "F L0 j0" : "F " + end;
                Dues.due("register of " + end, -1, Looms.apart(text).block(0, 'r'));
                Dues.due("guard of " + end, -1, Looms.apart(text).block(0, 'g'));
            }
            Blockloom loom = Looms.apart("F L0 p1 L1 h L2 h G0,1,2");
            Dues.due("guard", 2, loom.block(0, 'g'));
            loom.drop();
            Dues.due("guard that was taken away", -1, loom.block(0, 'g'));
        });
        Sentences.promise(29, "Throws `UnsupportedOperationException` if the old image is not apart without a fault", () ->
            Sentences.needsApart(loom -> loom.block(0, 'f')));
        Sentences.promise(29, "Throws `IndexOutOfBoundsException` if there is no such block, also one that was taken away", () ->
            Sentences.needsBlock((loom, block) -> loom.block(block, 's'), true));
        Sentences.promise(29, "Throws `IllegalArgumentException` if there is no such thing", () -> {
            Sentences.needsThing("fbosrg", (loom, what) -> loom.block(0, what));
        });
    }

    private static String told(Blockloom loom, int block) {
        StringBuilder text = new StringBuilder();
        for (char what : "fbosrg".toCharArray()) text.append(' ').append(loom.block(block, what));
        return text.substring(1);
    }

    private static void promiseEndOf() {
        Sentences.promise(30, "Returns the end of a block.", () -> {
            Blockloom loom = Looms.apart("F w1,0 L0 p1 L1 z1,1 r t1 j0 h T0,0");
            StringBuilder ends = new StringBuilder();
            for (int block = 0; block < loom.blocks(); block++) ends.append(loom.endOf(block));
            Dues.due("ends", "wgcrtgh", ends.toString());
        });
        Sentences.promise(30, "`block`: its number", () -> Dues.due("ends", "hr", "" + Looms.takenAway().endOf(0) + Looms.takenAway().endOf(2)));
        Sentences.promise(30, "Returns 'g', 'c', 'w', 'r', 'h' or 't'.", () -> {
            String[] texts = {"F L0 j0", "F z1,0 L0 h", "F y1,0 L0 h", "F w1,0 L0 h T0,0", "F r", "F h", "F t1", "F n L0 j0"};
            for (int index = 0; index < texts.length; index++) {
                Dues.due("end of " + texts[index], "gccwrhtg".charAt(index), Looms.apart(texts[index]).endOf(0));
            }
        });
        Sentences.promise(30, "Throws `UnsupportedOperationException` if the old image is not apart without a fault", () ->
            Sentences.needsApart(loom -> loom.endOf(0)));
        Sentences.promise(30, "Throws `IndexOutOfBoundsException` if there is no such block, also one that was taken away", () ->
            Sentences.needsBlock(Blockloom::endOf, true));
        Sentences.promise(31, "Returns the sign of an operation of a block.", () ->
            Dues.due("sign", 'p', Looms.apart("F n s1,1 n p1 h").opAt(0, 1)));
        Sentences.promise(31, "`block`: its number", () -> Dues.due("signs", "pc", signs(Looms.apart("F p1 h F c0 r"))));
        Sentences.promise(31, "`index`: its place, from 0", () -> {
            Blockloom loom = Looms.apart("F n s1,1 a1,1 n b1,1 m1,1 p1 d1 c0 f1 n h");
            for (int index = 0; index < 8; index++) Dues.due("op " + index, "sabmpdcf".charAt(index), loom.opAt(0, index));
        });
        Sentences.promise(31, "Returns its sign.", () ->
            Dues.due("behind an end", 'p', Looms.apart("F h s1,1 p1 h").opAt(1, 1)));
        Sentences.promise(31, "Throws `UnsupportedOperationException` if the old image is not apart without a fault", () ->
            Sentences.needsApart(loom -> loom.opAt(0, 0)));
        Sentences.promise(31, "Throws `IndexOutOfBoundsException` if there is no such block, also one that was taken away", () ->
            Sentences.needsBlock((loom, block) -> Dues.of(() -> loom.opAt(block, 0)).equals("throws NoSuchElementException") ? '-'
                : loom.opAt(block, 0), true));
        Sentences.promise(31, "Throws `NoSuchElementException` if there is no such operation", () -> {
            for (int far : FAR) Sentences.refused(NONE, Looms::full, loom -> loom.opAt(0, far));
            Sentences.refused(NONE, Looms::takenAway, loom -> loom.opAt(0, 1), loom -> loom.opAt(2, 0));
            Sentences.refused(NONE, () -> Looms.apart("F n p1 n p2 n h p3 h"), loom -> loom.opAt(0, 2), loom -> loom.opAt(0, 3));
        });
    }

    private static String signs(Blockloom loom) {
        return "" + loom.opAt(0, 0) + loom.opAt(1, 0);
    }

    private static void promiseSuccessor() {
        Sentences.promise(32, "Returns where a slot goes.", () ->
            Dues.due("slots", "2 1", Looms.apart("F z1,0 h L0 r").successor(0, 0) + " " + Looms.apart("F z1,0 h L0 r").successor(0, 1)));
        Sentences.promise(32, "`block`: its number", () -> Dues.due("of 1", 0, Looms.apart("F L0 z1,0 j0").successor(1, 0)));
        Sentences.promise(32, "`slot`: its number", () -> {
            Blockloom loom = Looms.apart("F L0 w1,0 L1 h L2 r T0,1 T0,2 T0,0 T0,2 T0,1");
            int[] goals = {1, 2, 0, 2, 1, 1};
            for (int slot = 0; slot < 6; slot++) Dues.due("slot " + slot, goals[slot], loom.successor(0, slot));
        });
        Sentences.promise(32, "Returns the block, -1 for outside.", () -> {
            for (String end : "r h t1".split(" ")) Dues.due("outside", -1, Looms.apart("F " + end).successor(0, 0));
            Blockloom loom = Looms.apart("F j0 L0 j1 L1 h");
            Dues.due("as read", 1, loom.successor(0, 0));
            loom.thread();
            Dues.due("threaded", 2, loom.successor(0, 0));
        });
        Sentences.promise(32, "Throws `UnsupportedOperationException` if the old image is not apart without a fault", () ->
            Sentences.needsApart(loom -> loom.successor(0, 0)));
        Sentences.promise(32, "Throws `IndexOutOfBoundsException` if there is no such block, also one that was taken away", () ->
            Sentences.needsBlock((loom, block) -> loom.successor(block, 0), true));
        Sentences.promise(32, "Throws `NoSuchElementException` if there is no such slot", () -> {
            for (int far : FAR) Sentences.refused(NONE, Looms::full, loom -> loom.successor(0, far));
            Sentences.refused(NONE, Looms::full, loom -> loom.successor(0, 2), loom -> loom.successor(1, 3), loom -> loom.successor(4, 1));
            Dues.due("the last one", true, Looms.full().successor(1, 2) >= 0);
        });
    }
}
