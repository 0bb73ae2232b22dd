import java.util.NoSuchElementException;

/** Promises 24 to 32: apart. */
final class ApartTest {
    private static final Class<NoSuchElementException> NONE = NoSuchElementException.class;
    private static final Class<IndexOutOfBoundsException> BOUNDS = IndexOutOfBoundsException.class;
    private static final Class<UnsupportedOperationException> UNSUPPORTED = UnsupportedOperationException.class;
    private static final String COUNTDOWN = "F s1,3 s2,1 L1 z1,2 p1 b1,2 j1 L2 h";

    public static void main(String[] args) {
        readings();
        faults();
        faultsBySwitch();
        faultsByGuard();
        faultsAhead();
        asks();
        exceptions();
        takenAway();
        goesAnew();
        withoutPiece();
        sameByBegin();
        Dues.close("ApartTest");
    }

    private static void due(String text, String want) {
        Dues.due("blocks of " + text, want, Looms.blocks(Looms.apart(text)));
    }

    private static void readings() {
        due(COUNTDOWN, "0@0 ss> 1; 1@4 >c1 3 2; 2@7 pb> 1; 3@13 >h -1");
        due("F y3,0 n n p1 L0 n s1,1 r", "0@0 >c3 1 2; 1@3 p> 2; 2@6 s>r -1");
        due("F d1 w1,0 s2,9 p2 h L0 p1 h L1 s2,5 p2 h T0,0 T0,1",
            "0@0 d>w1 2 3 1; 1@3 sp>h -1; 2@7 p>h -1; 3@9 sp>h -1");
        due("F L0 s1,9 t1 L1 h L2 p0 h G0,1,2", "0@0 s>t -1 ^2; 1@3 >h -1; 2@4 p>h -1");
        due("F s1,1 L0 p1 p2 L1 p3 L2 p4 h G0,2,1 G1,2,2", "0@0 s> 1; 1@2 pp> 2 ^2; 2@4 p> 3 ^2; 3@5 p>h -1");
        due("F s1,1 L0 p1 h T3,0 L1 j1", "0@0 sp>h -1; 1@4 > 1");
        due("F c1 f2 d3 h F z1,0 L0 t7", "0@0 cfd>h -1; 1@6 >c1 2 2; 2@9 >t -1");
        due("F j0 L0 h n j0", "0@0 > 1; 1@3 >h -1; 2@4 > 1");
        due("F L0 L1 w1,2 w2,2 r T2,0 T2,1 T2,0", "0@0 >w1 0 0 0 1; 1@2 >w2 0 0 0 2; 2@4 >r -1");
        due("F L0 p1 L1 h G0,1,0", "0@0 p> 1 ^0; 1@1 >h -1");
    }

    private static void dueFault(Blockloom loom, String text, char letter, int address) {
        Dues.due("fault of " + text, -1, loom.apart());
        Dues.due("letter of " + text, letter, loom.fault());
        Dues.due("address of " + text, address, loom.faultAt());
        Dues.refused("blocks with a fault of " + text, UNSUPPORTED, loom::blocks);
    }

    private static void dueFault(String text, char letter, int address) {
        dueFault(Looms.linked(text), text, letter, address);
    }

    private static void duePoked(String text, int address, int value, char letter, int at) {
        Blockloom loom = Looms.linked(text);
        loom.poke(address, value);
        dueFault(loom, text + " poked " + value + " to " + address, letter, at);
    }

    private static void faults() {
        duePoked("F s1,1 p1 h", 2, 128, 'o', 2);
        duePoked("F p1 p1 h F r", 2, 9, 'o', 2);
        duePoked("F p1 p1 h", 2, 9, 'o', 2);
        duePoked("F a1,1 h", 1, 8, 'o', 0);
        duePoked("F s1,1 j0 L0 h", 4, 255, 'j', 2);
        duePoked("F s1,1 j0 L0 h", 4, 1, 'j', 2);
        duePoked("F s1,1 j0 L0 h", 3, 255, 'j', 2);
        dueFault("F j0 h L0 F h", 'j', 0);
        dueFault("F p1 z1,0 h L0", 'j', 1);
        duePoked("F c1 h F p1 r", 2, 2, 'c', 0);
        duePoked("F c1 h F p1 r", 2, 0, 'c', 0);
        dueFault("F s1,1", 'e', 0);
        dueFault("F h F L0 y1,0", 'e', 1);
        dueFault("F h F h n", 'e', 2);
        dueFault("F c0", 'e', 0);
        dueFault("F h F r F L0 w0,0 T0,0", 'e', 2);
        dueFault("F L0 z1,0 h F s1,1", 'e', 4);
        for (String end : "r h t3 L0j0".split(" ")) {
            String text = end.equals("L0j0") ? "F L0 j0" : "F " + end;
            Dues.due("end by " + end, 1, Looms.apart(text).blocks());
            Dues.due("no fault", '-', Looms.apart(text).fault());
        }
    }

    private static void faultsBySwitch() {
        dueFault("F w0,0 h", 'w', 0);
        duePoked("F L0 w0,0 h T0,0", 1, 4, 'w', 0);
        duePoked("F L0 w0,0 h T0,0", 1, 1, 'w', 0);
        duePoked("F L0 h w0,0 T0,0", 2, 4, 'w', 1);
        dueFault("F w0,0 h L0 h T0,0 F p1 w0,0 h", 'w', 5);
        dueFault("F p1 w0,0 h F L0 r T0,0", 'w', 1);
        dueFault("F w0,0 h L0 T0,0", 'w', 0);
        duePoked("F L0 p1 L1 p1 w0,0 h T0,0 T0,1", 0, 9, 'w', 2);
    }

    private static void faultsByGuard() {
        dueFault("F L0 p1 L1 h G1,0,0", 'g', 1);
        dueFault("F L0 p1 L1 h G0,0,0", 'g', 0);
        dueFault("F p1 h F h L0 G0,0,0", 'g', 3);
        dueFault("F L0 p1 h L1 G0,1,1", 'g', 0);
        dueFault("F L0 p1 h L1 G0,1,1 F h", 'g', 0);
        dueFault("F L0 p1 h L1 G1,1,0", 'g', 2);
        duePoked("F p1 L0 p1 h L1 G0,1,0", 0, 9, 'g', 1);
        duePoked("F p1 L0 p1 h L1 h G1,0,1", 0, 0, 'g', 3);
        duePoked("F L0 p1 p1 L1 p1 h G0,1,0", 1, 9, 'g', 0);
        duePoked("F L0 p1 p1 L1 p1 h L2 G0,2,1", 1, 9, 'g', 0);
        dueFault("F L0 p1 L1 h L2 G0,2,0 G0,1,1 G0,1,2 G1,0,0", 'g', 0);
        Blockloom loom = Looms.apart("F L0 p1 L1 h L2 G0,2,1");
        Dues.due("up to the end of a piece", "0@0 p> 1 ^1; 1@1 >h -1 ^1", Looms.blocks(loom));
        loom = Looms.apart("F L0 p1 h L2 G0,2,0 F r");
        Dues.due("up to the end, where another piece begins", "0@0 p>h -1 ^0; 1@2 >r -1", Looms.blocks(loom));
    }

    private static void faultsAhead() {
        duePoked("F c0 c0 s1,1", 2, 0, 'c', 0);
        duePoked("F L0 w0,0 j0 h p1 p1", 7, 8, 'o', 7);
        dueFault("F L0 w0,0 s1,1 G0,0,0", 'w', 0);
        dueFault("F L0 j0 n G0,0,0", 'e', 3);
        duePoked("F L1 w0,0 j1 h", 4, 3, 'w', 0);
        duePoked("F L1 j1 w0,0 h", 2, 5, 'j', 0);
    }

    private static void asks() {
        Blockloom loom = Looms.apart("F d1 L0 w2,0 z3,0 c1 h T0,0 F t4");
        Dues.due("blocks", 5, loom.blocks());
        Dues.due("register of w", 2, loom.block(1, 'r'));
        Dues.due("register of c", 3, loom.block(2, 'r'));
        Dues.due("register of t", -1, loom.block(4, 'r'));
        Dues.due("register of g", -1, loom.block(0, 'r'));
        Dues.due("function", 1, loom.block(4, 'f'));
        Dues.due("function 0", 0, loom.block(3, 'f'));
        Dues.due("begin", 10, loom.block(4, 'b'));
        Dues.due("slots", 2, loom.block(1, 's'));
        Dues.due("guard", -1, loom.block(1, 'g'));
        Dues.due("operations", 1, loom.block(3, 'o'));
        Dues.due("end w", 'w', loom.endOf(1));
        Dues.due("op", 'c', loom.opAt(3, 0));
        Dues.due("there", true, loom.isThere(4));
    }

    private static void exceptions() {
        Blockloom loom = Looms.linked("F p1 h");
        Dues.refused("blocks", UNSUPPORTED, loom::blocks);
        Dues.refused("isThere", UNSUPPORTED, () -> loom.isThere(-1));
        Dues.refused("block", UNSUPPORTED, () -> loom.block(-1, 'f'));
        Dues.refused("endOf", UNSUPPORTED, () -> loom.endOf(-1));
        Dues.refused("opAt", UNSUPPORTED, () -> loom.opAt(-1, 0));
        Dues.refused("successor", UNSUPPORTED, () -> loom.successor(-1, 0));
        Dues.refused("faultAt", NONE, loom::faultAt);
        Dues.refused("apart of none", NONE, () -> new Blockloom().apart());
        loom.apart();
        Dues.refused("faultAt apart", NONE, loom::faultAt);
        for (int block : new int[] {-1, 1, 2000}) {
            Dues.refused("isThere of none", BOUNDS, () -> loom.isThere(block));
            Dues.refused("block of none", BOUNDS, () -> loom.block(block, 'x'));
            Dues.refused("endOf none", BOUNDS, () -> loom.endOf(block));
            Dues.refused("opAt none", BOUNDS, () -> loom.opAt(block, -1));
            Dues.refused("successor of none", BOUNDS, () -> loom.successor(block, -1));
        }
        Dues.refused("block x", IllegalArgumentException.class, () -> loom.block(0, 'x'));
        Dues.refused("op 1", NONE, () -> loom.opAt(0, 1));
        Dues.refused("op -1", NONE, () -> loom.opAt(0, -1));
        Dues.refused("slot 1", NONE, () -> loom.successor(0, 1));
        Dues.refused("slot -1", NONE, () -> loom.successor(0, -1));
    }

    private static void takenAway() {
        Blockloom loom = Looms.apart("F p1 h p2 h");
        loom.drop();
        Dues.due("blocks stay as many", 2, loom.blocks());
        Dues.due("not there", false, loom.isThere(1));
        Dues.due("there", true, loom.isThere(0));
        Dues.refused("block", BOUNDS, () -> loom.block(1, 'x'));
        Dues.refused("endOf", BOUNDS, () -> loom.endOf(1));
        Dues.refused("opAt", BOUNDS, () -> loom.opAt(1, 9));
        Dues.refused("successor", BOUNDS, () -> loom.successor(1, 9));
    }

    private static void goesAnew() {
        Blockloom loom = Looms.apart("F p1 h p2 h");
        loom.train(1);
        loom.letFlow(0);
        loom.drop();
        loom.make(1, false);
        Dues.due("apart anew", 2, loom.apart());
        Dues.due("all are there", true, loom.isThere(1));
        Dues.due("nothing is counted", "0/0; 0", Looms.counts(loom, false));
        Dues.due("nothing flows", "0/0; 0", Looms.counts(loom, true));
        Dues.due("the new one stays", 2, loom.size(1));
        Dues.due("fault", '-', loom.fault());
    }

    private static void withoutPiece() {
        Blockloom loom = Looms.apart("F c1 c2 c3 h F p1 r F p1 r F c2 p1 r");
        Dues.due("folded", 1, loom.fold());
        loom.make(1, false);
        loom.adopt();
        Dues.due("blocks", 3, loom.apart());
        Dues.due("begins", loom.begins(0, 1), loom.begins(0, 2));
        Dues.due("same", 1, loom.same(2));
        Dues.due("pieces", "0:0-10 1:10-12 3:12-17", Looms.pieces(loom, 0));
        Dues.refused("no blocks", BOUNDS, () -> loom.letFlow(2));
        Dues.refused("no order", BOUNDS, () -> loom.order(2));
        Dues.due("placed", "0 1 3", Looms.placed(loom));
        Dues.due("nothing to fold", 0, loom.fold());
    }

    private static void sameByBegin() {
        Blockloom loom = Looms.apart("F c1 c2 c3 h F p1 r F p2 r F p1 r");
        loom.fold();
        loom.make(1, false);
        loom.apart();
        Dues.due("not the same, apart anew", 3, loom.same(3));
        loom.adopt();
        loom.apart();
        Dues.due("the same as 1", 1, loom.same(3));
        loom = Looms.apart("F p1 r F p1 r F p1 r");
        loom.fold();
        loom.make(1, false);
        loom.apart();
        loom.adopt();
        loom.apart();
        Dues.due("the same as 0", 0, loom.same(2) + loom.same(1));
        Dues.due("blocks of one", "0@0 p>r -1", Looms.blocks(loom));
    }
}
