import java.util.NoSuchElementException;

/** Part 8 and the promises 48 to 50, sentence by sentence: making new images. */
final class MakingSentencesTest {
    private static final Class<IllegalArgumentException> ARGUMENT = IllegalArgumentException.class;
    private static final Class<IllegalStateException> STATE = IllegalStateException.class;
    private static final Class<NoSuchElementException> NONE = NoSuchElementException.class;
    private static final String NOT_APART = "Throws `UnsupportedOperationException` if the old image is not apart without a fault";

    public static void main(String[] args) {
        Sentences.openPart(8);
        Sentences.openPromises(48, 50);
        pieces();
        splitting();
        goingOn();
        conditions();
        switches();
        ways();
        layingAnew();
        folded();
        tables();
        guards();
        limits();
        promiseMake();
        promiseLongs();
        promiseIsLike();
        Sentences.close("MakingSentencesTest");
    }

    private static String made(Blockloom loom, int aligning, boolean isSplit) {
        int bytes = loom.make(aligning, isSplit);
        Dues.due("like", true, loom.isLike());
        Dues.due("sound", true, loom.isSound());
        Dues.due("size", bytes, loom.size(1));
        return Looms.bytes(loom, 1);
    }

    private static void dueMade(String text, String bytes) {
        Dues.due("made of " + text, bytes, made(Looms.apart(text), 1, false));
    }

    /** Trains with these numbers, and lets all functions flow. */
    private static Blockloom trained(String text, int... fed) {
        Blockloom loom = Looms.apart(text);
        for (int number : fed) loom.feed(number);
        loom.train(1);
        letFlow(loom);
        return loom;
    }

    private static void letFlow(Blockloom loom) {
        for (int function = 0; function < 8; function++) {
            int each = function;
            Dues.of(() -> loom.letFlow(each));
        }
    }

    private static void pieces() {
        Sentences.part(8, "The new image has for each function, in their order, a piece with its blocks in its order,", () -> {
            Blockloom loom = Looms.apart("F p1 h F p2 r F p3 r");
            for (int function = 0; function < 3; function++) {
                loom.count(function, -1, function);
                loom.count(function, 0, function);
            }
            letFlow(loom);
            loom.place();
            Dues.due("in their order", "43 82 42 82 41 83", made(loom, 1, false));
            Dues.due("pieces", "2:0-2 1:2-4 0:4-6", Looms.pieces(loom, 1));
            Blockloom blocks = trained("F j0 L1 h L0 p1 j1");
            Dues.due("as read", "80 1 83 41 80 252", made(blocks, 1, false));
            blocks.order(0);
            Dues.due("in its order", "41 83", made(blocks, 1, false));
        });
        Sentences.part(8, "at an address that can be divided by the aligning, 1, 2, 4 or 8, 'n' standing ahead;", () -> {
            String[] texts = {"F h F r F p1 r F s1,1 p1 r F p1 p1 p1 p1 r F p1 p1 p1 p1 p1 p1 p1 r F s1,1 r F h"};
            int[] sizes = {1, 1, 2, 4, 5, 8, 3, 1};
            for (int aligning = 1; aligning <= 8; aligning *= 2) {
                Blockloom loom = Looms.apart(texts[0]);
                String[] bytes = made(loom, aligning, aligning == 4).split(" ");
                int at = 0;
                for (int function = 0; function < 8; function++) {
                    while (at % aligning != 0) Dues.due("n at " + at, "0", bytes[at++]);
                    Dues.due("begin by " + aligning, at, loom.begins(1, function));
                    Dues.due("piece", function + " " + at + " " + (at + sizes[function]), loom.piece(1, function, 'f') + " "
                        + loom.piece(1, function, 'b') + " " + loom.piece(1, function, 'e'));
                    at += sizes[function];
                }
                Dues.due("nothing behind all", at, loom.size(1));
            }
        });
    }

    private static void splitting() {
        Sentences.part(8, "if it is to be split, and some block of it has a weight above 0,", () -> {
            Blockloom loom = Looms.apart("F z1,0 p1 h L0 h F z1,0 p1 r L0 r");
            made(loom, 1, true);
            Dues.due("no weights", "0:0-5 1:5-10", Looms.pieces(loom, 1));
            loom.count(0, 0, 1);
            loom.count(0, -1, 1);
            loom.count(2, 0, 1);
            loom.letFlow(0);
            made(loom, 1, true);
            Dues.due("some in the function 0", "0:0-3 1:3-8 0:8-10", Looms.pieces(loom, 1));
            made(loom, 1, false);
            Dues.due("not to be split", "0:0-5 1:5-10", Looms.pieces(loom, 1));
            loom.thread();
            made(loom, 1, true);
            Dues.due("no weights any more", "0:0-5 1:5-10", Looms.pieces(loom, 1));
            Blockloom first = trained("F p1 h L0 p2 j0");
            made(first, 1, true);
            Dues.due("the first one alone", "0:0-2 0:2-5", Looms.pieces(first, 1));
        });
        Sentences.part(8, "blocks with a weight of 0, but for the first one, are left out of that,", () -> {
            Blockloom loom = Looms.apart("F h L0 p1 j0 p2 h");
            loom.count(1, 0, 1);
            loom.letFlow(0);
            Dues.due("of weight 1", "83 41 80 253 42 83", made(loom, 1, true));
            Dues.due("pieces", "0:0-4 0:4-6", Looms.pieces(loom, 1));
            loom.count(1, 0, 9999);
            loom.letFlow(0);
            made(loom, 1, true);
            Dues.due("the same by 9999", "0:0-4 0:4-6", Looms.pieces(loom, 1));
            Blockloom all = trained("F j0 L0 p1 h");
            made(all, 1, true);
            Dues.due("none is left out", "0:0-2", Looms.pieces(all, 1));
        });
        Sentences.part(8, "and stand, in their order, in a second piece, behind the pieces of all functions, these pieces in the same "
            + "order, not aligned.", () -> {
            Blockloom loom = trained("F d1 y1,0 p1 h L0 p2 z1,1 c1 h L1 p3 h F d1 y1,0 p4 r L0 p5 r F p6 r", 7, 7);
            Dues.due("blocks", "0@0 d>c1 1 2; 1@4 p>h -1; 2@6 p>c1 4 3; 3@10 c>h -1; 4@14 p>h -1; 5@16 d>c1 6 7; 6@20 p>r -1; 7@22 p>r -1; "
                + "8@24 p>r -1", Looms.blocks(loom));
            made(loom, 8, true);
            Dues.due("pieces", "0:0-10 1:16-21 2:24-26 0:26-30 1:30-32", Looms.pieces(loom, 1));
            loom.count(8, 0, 50);
            loom.count(8, -1, 50);
            loom.count(5, -1, 9);
            loom.count(5, 1, 9);
            loom.count(7, 0, 9);
            letFlow(loom);
            loom.place();
            Dues.due("functions", "2 0 1", Looms.placed(loom));
            made(loom, 8, true);
            Dues.due("pieces by the order of functions", "2:0-2 0:8-18 1:24-29 0:29-33 1:33-35", Looms.pieces(loom, 1));
            StringBuilder text = new StringBuilder();
            StringBuilder pieces = new StringBuilder();
            for (int function = 0; function < 8; function++) {
                text.append(" F z1,0 p1 r L0 r");
                pieces.append(' ').append(function).append(':').append(4 * function).append('-').append(4 * function + 3);
            }
            for (int function = 0; function < 8; function++) {
                pieces.append(' ').append(function).append(':').append(31 + 2 * function).append('-').append(33 + 2 * function);
            }
            Blockloom all = Looms.apart(text.toString());
            for (int function = 0; function < 8; function++) {
                for (int block = 3 * function; block < 3 * function + 3; block += 2) all.count(block, 0, 5);
                all.count(3 * function, -1, 5);
            }
            letFlow(all);
            made(all, 4, true);
            Dues.due("two pieces of each", pieces.substring(1), Looms.pieces(all, 1));
            all.adopt();
            Dues.due("all are read", 24, all.apart());
        });
    }

    private static void goingOn() {
        Sentences.part(8, "A block has its operations, and for its end:", () -> {
            dueMade("F n s1,5 n a2,3 b3,2 m4,4 n p5 d6 f7 c0 n h", "9 5 18 3 27 2 36 4 45 118 127 88 255 242 83");
            dueMade("F n n n h", "83");
        });
        Sentences.part(8, "of 'g', and 'c' with like successors, nothing, if that is the next block of its piece, otherwise a 'j';", () -> {
            dueMade("F p1 j0 L0 p2 h", "41 42 83");
            dueMade("F L0 p1 j0", "41 80 253");
            dueMade("F p1 z1,0 L0 p2 h", "41 42 83");
            dueMade("F p1 y1,0 L0 p2 h", "41 42 83");
            dueMade("F L1 p1 j0 L2 h L0 z2,1 j1", "41 80 1 83 50 250 80 248");
            Blockloom loom = Looms.apart("F L0 p1 z3,1 j1 L1 h");
            loom.thread();
            loom.drop();
            Dues.due("like successors by threading", "0@0 p>c3 2 2; 2@7 >h -1", Looms.blocks(loom));
            Dues.due("nothing", "41 83", made(loom, 1, false));
            Blockloom behind = Looms.apart("F j0 L1 h L0 p1 z3,1 j1");
            behind.thread();
            behind.drop();
            Dues.due("a j", "80 1 83 41 80 252", made(behind, 1, false));
            Blockloom split = Looms.apart("F p1 L0 p2 h j0 L1 p3 j1");
            Dues.due("next in its order", "41 42 83 80 252 43 80 253", made(split, 1, true));
            split.count(3, 0, 5);
            split.letFlow(0);
            Dues.due("not next in its piece", "41 80 3 43 80 253 42 83 80 252", made(split, 1, true));
        });
    }

    private static void conditions() {
        Sentences.part(8, "of 'c' a 'z' to the slot 0, if the slot 1 is next,", () -> {
            dueMade("F z5,0 p1 h L0 p2 h", "53 2 41 83 42 83");
            dueMade("F L0 p1 z5,0 h", "41 53 253 83");
        });
        Sentences.part(8, "a 'y' to the slot 1, if the slot 0 is next,", () -> {
            dueMade("F y5,0 p1 h L0 p2 h", "61 2 41 83 42 83");
            dueMade("F L0 p1 y5,0 h", "41 61 253 83");
        });
        Sentences.part(8, "otherwise a 'z' to the slot 0 and a 'j' to the slot 1;", () -> {
            String text = "F d1 j3 L0 p1 h L1 p2 h L3 z5,0 j1";
            Blockloom loom = Looms.apart(text);
            loom.thread();
            loom.drop();
            Dues.due("z", "113 80 4 41 83 42 83 53 250 80 250", made(loom, 1, false));
            Blockloom other = Looms.apart(text.replace("z5", "y5"));
            other.thread();
            other.drop();
            Dues.due("z to the slot 0 of a y", "113 80 4 41 83 42 83 53 252 80 248", made(other, 1, false));
            Blockloom itself = Looms.apart("F d1 L0 z5,0 j0");
            itself.thread();
            itself.drop();
            Dues.due("like ones", "113 80 254", made(itself, 1, false));
        });
    }

    private static void switches() {
        Sentences.part(8, "of 'w' the switch, and, unless its last slot is next, a 'j';", () -> {
            dueMade("F d1 w1,2 p1 h L0 p2 h T2,0", "113 97 2 41 83 42 83");
            Blockloom loom = Looms.apart("F d1 w1,2 j1 L0 p2 h L1 p1 h T2,0");
            loom.thread();
            loom.drop();
            Dues.due("a j", "113 97 2 80 2 42 83 41 83", made(loom, 1, false));
            dueMade("F L0 w1,3 L1 r T3,0", "97 3 82");
        });
        Sentences.part(8, "else itself.", () -> {
            dueMade("F p1 h", "41 83");
            dueMade("F p1 r", "41 82");
            dueMade("F p1 n t7", "41 111");
        });
    }

    /** A function whose cold piece stands behind 123 bytes and so many more: jumps to it, and back. */
    private static Blockloom far(int more) {
        return trained("F d1 z1,0 L1 p1 c1 h L0 p2 j1 F" + Looms.ops("c2", 38) + " r F" + Looms.ops("p3", more) + " r", 5);
    }

    private static void ways() {
        Sentences.part(8, "All jumps are short at first;", () -> {
            dueMade("F L0 p1 z1,0 y2,0 j0", "41 49 253 58 251 80 249");
            Blockloom loom = Looms.apart("F L0 p1 z1,0 y2,0 j0");
            Dues.due("all long in the old one", 3, loom.longs(0));
            made(loom, 1, false);
            Dues.due("none in the new one", 0, loom.longs(1));
            Blockloom again = far(7);
            made(again, 1, true);
            Dues.due("some are long", 2, again.longs(1));
            made(again, 1, false);
            Dues.due("all are short as it is made again", 0, again.longs(1));
        });
        Sentences.part(8, "as long as some way does not fit, all such ones become long,", () -> {
            int[] longs = {0, 1, 1, 2};
            String[] cold = {"128-131", "129-133", "130-134", "132-136"};
            for (int index = 0; index < 4; index++) {
                Blockloom loom = far(4 + index);
                made(loom, 1, true);
                Dues.due("long ones of " + index, longs[index], loom.longs(1));
                Dues.due("cold piece", "0:" + cold[index], Looms.pieces(loom, 1).split(" ")[3]);
            }
            Blockloom loom = far(4);
            loom.make(1, true);
            Dues.due("a way of -128", "42 80 128", Looms.bytes(loom, 1).substring(Looms.bytes(loom, 1).length() - 9));
            Blockloom forth = far(6);
            forth.make(1, true);
            Dues.due("a way of 127", 127, forth.byteAt(1, 2));
            Blockloom more = far(7);
            more.make(1, true);
            Dues.due("a way of 128", "65 0 128", more.byteAt(1, 1) + " " + more.byteAt(1, 2) + " " + more.byteAt(1, 3));
        });
    }

    private static void layingAnew() {
        Sentences.part(8, "and all is laid anew.", () -> {
            String others = " F" + Looms.ops("c2", 38) + " r F" + Looms.ops("p4", 4) + " r";
            Blockloom loom = trained("F d1 s2,1 z1,0 z2,3 L1 p1 c1 h L0 p2 j1 L3 p3 j1" + others, 5);
            made(loom, 1, true);
            Dues.due("one becomes long by another one", 3, loom.longs(1));
            Dues.due("pieces", "0:0-14 1:14-129 2:129-134 0:134-141", Looms.pieces(loom, 1));
            Dues.due("a way of 128 at last", "65 0 128", loom.byteAt(1, 3) + " " + loom.byteAt(1, 4) + " " + loom.byteAt(1, 5));
            Blockloom aligned = far(7);
            made(aligned, 8, true);
            Dues.due("aligned anew", "0:0-9 1:16-131 2:136-144 0:144-148", Looms.pieces(aligned, 1));
        });
    }

    private static void folded() {
        Sentences.part(8, "A folded function begins where that begins that is the same.", () -> {
            Blockloom loom = Looms.apart("F c2 c3 s1,3 f1 h F p1 r F p1 r F p1 r");
            loom.fold();
            made(loom, 4, false);
            Dues.due("begins", "0 12 12 12", loom.begins(1, 0) + " " + loom.begins(1, 1) + " " + loom.begins(1, 2) + " " + loom.begins(1, 3));
            Dues.due("bytes", "88 0 9 88 0 6 9 3 121 83 0 0 41 82", Looms.bytes(loom, 1));
            loom.adopt();
            loom.apart();
            made(loom, 1, false);
            Dues.due("made again", "10 10", loom.begins(1, 2) + " " + loom.begins(1, 3));
        });
    }

    private static void tables() {
        Sentences.part(8, "Tables tell where blocks are;", () -> {
            Blockloom loom = Looms.apart("F d1 w1,1 n j0 L0 p1 n h L1 p2 h T1,1 T1,0 T1,1 T1,1 T1,0");
            made(loom, 1, false);
            Dues.due("addresses", "5 3 5 5 3", Looms.table(loom, 1, 1));
            loom = Looms.apart("F d1 w1,1 L0 p1 w1,0 L1 p2 w1,3 L2 h T1,0 T1,1 T0,2 T0,1 T0,0 T0,2 T0,1 T3,0 T3,1 T3,2 T3,0 T3,2");
            made(loom, 1, false);
            Dues.due("of three switches", "9 6 3 9 6/3 6/3 6 9 3 9", Looms.table(loom, 1, 0) + "/" + Looms.table(loom, 1, 1) + "/"
                + Looms.table(loom, 1, 3));
            loom = Looms.apart("F d1 w1,1 L0 j1 L1 p2 w1,1 h T1,0");
            loom.thread();
            loom.drop();
            made(loom, 1, false);
            Dues.due("threaded, of two switches", "3", Looms.table(loom, 1, 1));
        });
        Sentences.part(8, "Tables that no switch uses, and slots of them, are without addresses.", () -> {
            Blockloom loom = Looms.apart("F L0 p1 h w1,3 h T0,0 T3,0 T3,0");
            made(loom, 1, false);
            Dues.due("used", "/0 0", Looms.table(loom, 1, 0) + "/" + Looms.table(loom, 1, 3));
            loom.drop();
            made(loom, 1, false);
            Dues.due("used no more", "/", Looms.table(loom, 1, 0) + "/" + Looms.table(loom, 1, 3));
            Dues.refused("no address", NONE, () -> loom.tableAt(1, 3, 0));
            Blockloom folded = Looms.apart("F h F L0 w1,0 r T0,0 F L0 w1,1 r T1,0");
            folded.fold();
            made(folded, 1, false);
            Dues.due("of a folded one", "1/", Looms.table(folded, 1, 0) + "/" + Looms.table(folded, 1, 1));
        });
    }

    private static void guards() {
        Sentences.part(8, "guards are one for each row of blocks one behind the other in a piece that have their guard at one block, "
            + "by addresses;", () -> {
            Blockloom loom = Looms.apart("F L0 p1 L1 p2 L2 p3 L3 p4 h G0,1,3 G1,3,3");
            made(loom, 1, false);
            Dues.due("one row of two guards", "0-3^3", Looms.guards(loom, 1));
            loom = Looms.apart("F L0 p1 L1 p2 L2 p3 L3 p4 h G2,3,0 G0,1,3");
            made(loom, 1, false);
            Dues.due("by addresses", "0-1^3 2-3^0", Looms.guards(loom, 1));
            loom = Looms.apart("F L0 p1 L1 p2 L2 p3 L3 p4 h G0,3,3 G1,2,0");
            made(loom, 1, false);
            Dues.due("the first one of each block", "0-3^3", Looms.guards(loom, 1));
            loom = Looms.apart("F L0 p1 L1 p2 L2 p3 L3 p4 h G1,2,0 G0,3,3");
            made(loom, 1, false);
            Dues.due("another one between", "0-1^3 1-2^0 2-3^3", Looms.guards(loom, 1));
            loom = Looms.apart("F L0 p1 h L1 G0,1,0 F L0 p2 r L1 G0,1,0");
            made(loom, 4, false);
            Dues.due("of two pieces", "0-2^0 4-6^4", Looms.guards(loom, 1));
            loom = Looms.apart("F L0 d1 z1,1 p1 h L1 p2 h L2 G0,2,0");
            made(loom, 1, false);
            Dues.due("up to the end", "0-7^0", Looms.guards(loom, 1));
            loom = trained("F L0 d1 z1,1 p1 h L1 p2 h L2 G0,2,0", 0);
            made(loom, 1, true);
            Dues.due("of both pieces of one", "0-5^0 5-7^0", Looms.guards(loom, 1));
        });
        Sentences.part(8, "such a row without bytes has none.", () -> {
            Blockloom loom = Looms.apart("F z1,1 L0 n L1 p1 L2 h G0,1,2");
            made(loom, 1, false);
            Dues.due("none", "", Looms.guards(loom, 1));
            loom = Looms.apart("F z1,1 L0 n L1 p1 L2 h G0,2,2");
            made(loom, 1, false);
            Dues.due("with bytes behind", "2-3^3", Looms.guards(loom, 1));
            loom = Looms.apart("F p1 L0 n L1 n L2 p1 h G0,1,2 G1,2,2");
            made(loom, 1, false);
            Dues.due("two blocks without", "", Looms.guards(loom, 1));
        });
    }

    /** Functions of 590 bytes, and one more of so many. */
    private static Blockloom large(int more) {
        StringBuilder text = new StringBuilder();
        for (int function = 0; function < 5; function++) text.append(" F").append(Looms.ops("c0", 39)).append(" h");
        return Looms.apart(text + " F" + Looms.ops("p1", more - 1) + " h");
    }

    /** Functions that end at 578 by an aligning of 4, and one more of so many bytes. */
    private static Blockloom ahead(int more) {
        StringBuilder text = new StringBuilder();
        for (int function = 0; function < 4; function++) text.append(" F").append(Looms.ops("c0", 39)).append(" h");
        return Looms.apart(text + " F" + Looms.ops("c0", 32) + " p1 h F" + Looms.ops("p1", more - 1) + " h");
    }

    /** Six functions with four guarded blocks each between others, and what comes behind. */
    private static Blockloom guarded(String behind) {
        StringBuilder text = new StringBuilder();
        for (int function = 0; function < 6; function++) {
            text.append(" F L0 p1 j4 L1 p1 j5 L2 p1 j6 L3 p1 j7 L4 p2 j1 L5 p2 j2 L6 p2 j3 L7 p2 h G0,4,7");
        }
        Blockloom loom = Looms.apart(text + behind);
        for (int block = 0; block < 48; block++) {
            loom.count(block, 0, 1);
            if (block % 8 == 0) loom.count(block, -1, 1);
        }
        for (int function = 0; function < 6; function++) {
            loom.letFlow(function);
            loom.order(function);
        }
        return loom;
    }

    private static void limits() {
        Sentences.part(8, "The new image may have at most 600 bytes", () -> {
            Dues.due("600", 600, large(10).make(1, false));
            Dues.refused("601", STATE, () -> large(11).make(1, false));
            Dues.due("600 with what stands ahead", 600, ahead(20).make(4, false));
            Dues.due("590 without", 590, ahead(20).make(1, false));
            Dues.refused("601 with what stands ahead", STATE, () -> ahead(21).make(4, false));
        });
        Sentences.part(8, "and 24 guards.", () -> {
            Blockloom loom = guarded("");
            made(loom, 1, false);
            Dues.due("24", 24, Looms.guards(loom, 1).split(" ").length);
            Dues.refused("25", STATE, () -> guarded(" F L0 p1 r L1 G0,1,0").make(1, false));
            Blockloom empty = guarded(" F L0 n L1 p1 r G0,1,1");
            made(empty, 1, false);
            Dues.due("one without bytes is none", 24, Looms.guards(empty, 1).split(" ").length);
        });
    }

    private static void promiseMake() {
        Sentences.promise(48, "Makes the new image.", () -> {
            Blockloom loom = Looms.apart("F n p1 h");
            made(loom, 1, false);
            Dues.due("new", "41 83", Looms.bytes(loom, 1));
            Dues.due("the old one stays", "0 41 83", Looms.bytes(loom, 0));
            loom.drop();
            made(loom, 8, false);
            Dues.due("made again", "41 83", Looms.bytes(loom, 1));
            Dues.due("still apart", 1, loom.blocks());
        });
        Sentences.promise(48, "`aligning`: 1, 2, 4 or 8", () -> {
            int[] sizes = {0, 2, 3, 0, 5, 0, 0, 0, 9};
            for (int aligning = 1; aligning <= 8; aligning *= 2) {
                Dues.due("by " + aligning, sizes[aligning], Looms.apart("F h F r").make(aligning, false));
            }
        });
        Sentences.promise(48, "`isSplit`: whether functions are split", () -> {
            Blockloom loom = trained("F d1 z1,0 p1 h L0 h", 0);
            loom.make(1, true);
            Dues.due("split", "0:0-4 0:4-6", Looms.pieces(loom, 1));
            loom.make(1, false);
            Dues.due("not split", "0:0-6", Looms.pieces(loom, 1));
        });
        Sentences.promise(48, "Returns how many bytes it has.", () -> {
            Dues.due("least", 1, Looms.apart("F n n h").make(8, true));
            Dues.due("most", 600, large(10).make(1, true));
        });
        Sentences.promise(48, NOT_APART, () -> Sentences.needsApart(loom -> loom.make(1, false)));
        Sentences.promise(48, "Throws `IllegalArgumentException` if the aligning is none of these", () -> {
            for (int aligning : new int[] {0, 3, 5, 6, 7, 9, 16, -1, -8, Integer.MIN_VALUE, Integer.MAX_VALUE}) {
                Sentences.refused(ARGUMENT, Looms::full, loom -> loom.make(aligning, true), loom -> loom.make(aligning, false));
            }
        });
        Sentences.promise(48, "Throws `IllegalStateException` if it would have too many bytes or guards", () -> {
            Sentences.refused(STATE, () -> large(11), loom -> loom.make(1, false), loom -> loom.make(8, true));
            Sentences.refused(STATE, () -> {
                Blockloom loom = large(10);
                loom.make(1, false);
                return loom;
            }, loom -> loom.make(4, false));
            Sentences.refused(STATE, () -> guarded(" F L0 p1 r L1 G0,1,0"), loom -> loom.make(1, false));
        });
    }

    private static void promiseLongs() {
        Sentences.promise(49, "Returns how many jumps of an image are long.", () -> {
            Dues.due("each", 3, Looms.linked("F L0 z1,0 y1,0 j0").longs(0));
            Dues.due("no calls", 0, Looms.linked("F c0 h").longs(0));
            Blockloom loom = Looms.apart("F L0 z1,0 y1,0 j0");
            loom.make(1, false);
            Dues.due("no short ones", 0, loom.longs(1));
        });
        Sentences.promise(49, "`image`: 0 the old one, 1 the new one", () -> {
            Blockloom loom = far(5);
            loom.make(1, true);
            Dues.due("old, new", "2 1", loom.longs(0) + " " + loom.longs(1));
        });
        Sentences.promise(49, "Returns how many, in its pieces; in each of these, from the first byte that is no operation on, none is "
            + "counted.", () -> {
            Blockloom loom = Looms.linked("F L0 z1,0 n y1,0 j0 F L0 z1,0 j0 r F L0 j0");
            Dues.due("all", 6, loom.longs(0));
            loom.poke(3, 255);
            Dues.due("one of the first piece", 4, loom.longs(0));
            loom.poke(0, 128);
            Dues.due("none of the first piece", 3, loom.longs(0));
            loom.poke(16, 1);
            Dues.due("two of the second one", 3, loom.longs(0));
            loom.poke(10, 200);
            Dues.due("none of the second one", 1, loom.longs(0));
            loom.poke(17, 4);
            Dues.due("none", 0, loom.longs(0));
            Blockloom operand = Looms.linked("F s1,81 s1,65 h");
            Dues.due("what is told by a byte is none", 0, operand.longs(0));
            Blockloom aligned = Looms.apart("F h F r");
            aligned.make(8, false);
            aligned.adopt();
            aligned.poke(1, 81);
            Dues.due("what stands in no piece is none", 0, aligned.longs(0));
        });
        Sentences.promise(49, "Throws `IndexOutOfBoundsException` if there is no such image", () -> Sentences.needsImage(Blockloom::longs));
        Sentences.promise(49, "Throws `NoSuchElementException` if that image was not made", () -> {
            Sentences.refused(NONE, Blockloom::new, loom -> loom.longs(0), loom -> loom.longs(1));
            Sentences.needsNew(loom -> loom.longs(1));
        });
    }

    private static void promiseIsLike() {
        Sentences.promise(50, "Tells whether both images do the same with the numbers to read; the last run stays.", () -> {
            Blockloom loom = Looms.full();
            String before = Looms.prints(loom) + loom.end() + loom.told('j') + loom.told('t') + loom.told('m') + loom.told('d');
            loom.clear();
            for (int number = -1; number < 3; number++) {
                loom.feed(number);
                Dues.due("like", true, loom.isLike());
            }
            Dues.due("last run", before, Looms.prints(loom) + loom.end() + loom.told('j') + loom.told('t') + loom.told('m') + loom.told('d'));
        });
        Sentences.promise(50, "Returns whether they print the same, end the same, with as many works, as deep.", () -> {
            String[] texts = {"F p1 h", "F r", "F t1", "F L0 j0", "F c0 r", "F s1,9 f1 h", "F L0 p1 j0", "F c1 h F c2 n r F p1 n r"};
            String ends = "hruldxsh";
            for (int index = 0; index < texts.length; index++) {
                Blockloom loom = Looms.apart(texts[index]);
                loom.make(8, true);
                Dues.due("like " + texts[index], true, loom.isLike());
                String old = Looms.prints(loom);
                loom.run(1);
                Dues.due("end", ends.charAt(index), loom.end());
            }
        });
        Sentences.promise(50, "Throws `NoSuchElementException` if there is no new image", () -> {
            Sentences.needsNew(Blockloom::isLike);
        });
    }
}
