/** Part 6 and the promises 39 to 42, sentence by sentence: threading, dropping and folding. */
final class AlteringSentencesTest {
    private static final String NOT_APART = "Throws `UnsupportedOperationException` if the old image is not apart without a fault";

    public static void main(String[] args) {
        Sentences.openPart(6);
        Sentences.openPromises(39, 42);
        altered();
        threading();
        dropping();
        droppingByGuards();
        folding();
        alikeOperations();
        alikeEnds();
        alikeByGuards();
        widest();
        forgetting();
        promiseThread();
        promiseDrop();
        promiseFold();
        promiseSame();
        Sentences.close("AlteringSentencesTest");
    }

    private static void dueThreaded(String text, int changed, String want) {
        Blockloom loom = Looms.apart(text);
        Dues.due("threaded of " + text, changed, loom.thread());
        Dues.due("blocks of " + text, want, Looms.blocks(loom));
    }

    private static void dueDropped(String text, int taken, String want) {
        Blockloom loom = Looms.apart(text);
        Dues.due("dropped of " + text, taken, loom.drop());
        Dues.due("blocks of " + text, want, Looms.blocks(loom));
    }

    private static void dueFolded(String text, String same) {
        Blockloom loom = Looms.apart(text);
        int folded = loom.fold();
        StringBuilder got = new StringBuilder();
        int many = 0;
        for (int each = 0; each < same.length(); each++) {
            got.append(loom.same(each));
            if (loom.same(each) != each) many++;
        }
        Dues.due("same of " + text, same, got.toString());
        Dues.due("folded of " + text, many, folded);
    }

    private static String image(Blockloom loom) {
        return Looms.bytes(loom, 0) + Looms.pieces(loom, 0) + Looms.guards(loom, 0) + Looms.table(loom, 0, 0) + Looms.ran(loom, 0)
            + loom.begins(0, 0) + loom.begins(0, 2);
    }

    private static void altered() {
        Sentences.part(6, "What is altered are the blocks, not the old image.", () -> {
            Blockloom loom = Looms.apart("F L0 d1 w1,0 j1 L1 j2 L2 c2 p1 h t1 G0,2,1 T0,1 T0,0 F p1 r F p1 r");
            String before = image(loom);
            int blocks = loom.blocks();
            loom.thread();
            Dues.due("threaded", before, image(loom));
            loom.drop();
            Dues.due("dropped", before, image(loom));
            loom.fold();
            Dues.due("folded", before, image(loom));
            Dues.due("as many blocks", blocks, loom.blocks());
            Dues.due("apart anew all are there", blocks, loom.apart());
            Dues.due("the last one too", true, loom.isThere(blocks - 1));
        });
    }

    private static void threading() {
        String words = "To thread lets each slot that goes to a block without operations with the end 'g' go on to where that goes, and so on,";
        Sentences.part(6, words, () -> {
            dueThreaded("F j0 L0 j1 L1 h", 1, "0@0 > 2; 1@3 > 2; 2@6 >h -1");
            dueThreaded("F z1,0 L1 j2 L0 j1 L2 h", 3, "0@0 >c1 3 3; 1@3 > 3; 2@6 > 3; 3@9 >h -1");
            dueThreaded("F w1,0 j1 L0 j1 L1 h T0,0 T0,1 T0,0", 3, "0@0 >w1 3 3 3 3; 1@2 > 3; 2@5 > 3; 3@8 >h -1");
            dueThreaded("F p1 L0 n n L1 h j0 j1", 2, "0@0 p> 2; 1@1 > 2; 2@3 >h -1; 3@4 > 2; 4@7 > 2");
            dueThreaded("F p1 L0 p2 L1 h j0 j1", 0, "0@0 p> 1; 1@1 p> 2; 2@2 >h -1; 3@3 > 1; 4@6 > 2");
            dueThreaded("F p1 j0 L0 z1,1 L1 h", 0, "0@0 p> 1; 1@4 >c1 2 2; 2@7 >h -1");
            dueThreaded("F p1 j0 L0 w1,0 L1 h T0,1", 0, "0@0 p> 1; 1@4 >w1 2 2; 2@6 >h -1");
            dueThreaded("F p1 j0 L0 r", 0, "0@0 p> 1; 1@4 >r -1");
            dueThreaded("F L0 j2 L1 h L2 p1 j0", 1, "0@0 > 2; 1@3 >h -1; 2@4 p> 2");
            dueThreaded("F L0 j2 h L2 p1 z1,0 h", 1, "0@0 > 2; 1@3 >h -1; 2@4 p>c1 2 3; 3@8 >h -1");
            StringBuilder text = new StringBuilder("F j0");
            for (int label = 0; label < 9; label++) text.append(" L").append(label).append(" j").append(label + 1);
            Blockloom loom = Looms.apart(text + " L9 h");
            Dues.due("a long row", 9, loom.thread());
            Dues.due("to its end", 10, loom.successor(0, 0));
        });
        Sentences.part(6, "as long as it does not come to a block again to which it came; then it stays as it was.", () -> {
            dueThreaded("F L0 j0", 0, "0@0 > 0");
            dueThreaded("F j0 L0 j0", 0, "0@0 > 1; 1@3 > 1");
            dueThreaded("F j0 L0 j1 L1 j0", 0, "0@0 > 1; 1@3 > 2; 2@6 > 1");
            dueThreaded("F j0 L0 j1 L1 j2 L2 j1", 0, "0@0 > 1; 1@3 > 2; 2@6 > 3; 3@9 > 2");
            dueThreaded("F p1 L0 j1 L1 j2 L2 j0", 0, "0@0 p> 1; 1@1 > 2; 2@4 > 3; 3@7 > 1");
            dueThreaded("F L0 p1 j1 L1 j0", 1, "0@0 p> 0; 1@4 > 0");
            dueThreaded("F z1,0 j2 L0 j1 L1 j0 L2 h", 1, "0@0 >c1 2 4; 1@3 > 4; 2@6 > 3; 3@9 > 2; 4@12 >h -1");
            Blockloom ring = Looms.apart("F p1 h L0 j1 L1 j0");
            ring.thread();
            Dues.due("a ring that is not come to", "0@0 p>h -1; 1@2 > 2; 2@5 > 1", Looms.blocks(ring));
        });
        Sentences.part(6, "Counts stay.", () -> {
            Blockloom loom = Looms.apart("F z1,0 h L0 j1 L1 h");
            loom.count(0, 0, 9999);
            loom.count(0, 1, 1);
            loom.count(0, -1, 2);
            loom.count(2, 0, 3);
            loom.thread();
            Dues.due("counts", "2/9999 1; 0; 3; 0", Looms.counts(loom, false));
        });
    }

    private static void dropping() {
        Sentences.part(6, "To drop takes all blocks away that can not be come to:", () -> {
            dueDropped("F h p1 h", 1, "0@0 >h -1");
            dueDropped("F h L0 j0", 1, "0@0 >h -1");
            dueDropped("F h L0 p1 j1 L1 p2 j0", 2, "0@0 >h -1");
            dueDropped("F h L0 z1,1 L1 j0 r", 3, "0@0 >h -1");
            dueDropped("F p1 h", 0, "0@0 p>h -1");
        });
        Sentences.part(6, "from the first blocks of functions that are not folded by slots,", () -> {
            dueDropped("F h F r F t1 p1 h", 1, "0@0 >h -1; 1@1 >r -1; 2@2 >t -1");
            dueDropped("F j0 L1 j2 L0 j1 L2 h", 0, "0@0 > 2; 1@3 > 3; 2@6 > 1; 3@9 >h -1");
            dueDropped("F w1,0 h L0 h L1 h h T0,0 T0,0 T0,1", 1, "0@0 >w1 2 2 3 1; 1@2 >h -1; 2@3 >h -1; 3@4 >h -1");
            dueDropped("F z1,0 h L0 h h", 1, "0@0 >c1 2 1; 1@3 >h -1; 2@4 >h -1");
            Blockloom loom = Looms.apart("F h F p1 r h F p1 r p1 h");
            Dues.due("folded", 1, loom.fold());
            Dues.due("those of a folded one went with it", 1, loom.drop());
            Dues.due("blocks", "0@0 >h -1; 1@1 p>r -1", Looms.blocks(loom));
            Blockloom threaded = Looms.apart("F p1 j0 L0 j1 L1 h");
            threaded.thread();
            Dues.due("what is gone by", 1, threaded.drop());
        });
    }

    private static void droppingByGuards() {
        Sentences.part(6, "and to where a guard of a block is, if it has a 'c' or 'f', or ends by 't';", () -> {
            for (String op : "c0 f1".split(" ")) {
                String text = "F L0 " + op + " L1 h L2 p2 h G0,1,2";
                Dues.due("by " + op, 0, Looms.apart(text).drop());
                Dues.due("ahead of others by " + op, 0, Looms.apart("F L0 " + op + " p1 L1 h L2 p2 h G0,1,2").drop());
                Dues.due("behind others by " + op, 0, Looms.apart("F L0 p1 " + op + " L1 h L2 p2 h G0,1,2").drop());
                Dues.due("not guarded " + op, 1, Looms.apart("F L0 p1 L1 " + op + " h L2 p2 h G0,1,2").drop());
            }
            dueDropped("F L0 t1 L1 h L2 p2 h G0,1,2", 1, "0@0 >t -1 ^2; 2@2 p>h -1");
            for (String op : "s1,1 a1,1 b1,1 m1,1 p1 d1 n".split(" ")) {
                Dues.due("not by " + op, 1, Looms.apart("F L0 " + op + " L1 h L2 p2 h G0,1,2").drop());
            }
            for (String end : "j1 z1,1 y1,1 w1,0".split(" ")) {
                Dues.due("not by " + end, 1, Looms.apart("F L0 " + end + " L1 h L2 p2 h G0,1,2 T0,1").drop());
            }
            for (String end : "r h".split(" ")) Dues.due("not by " + end, 1, Looms.apart("F L0 " + end + " L1 p2 h G0,1,1").drop());
            dueDropped("F h L0 c0 L1 h L2 p2 h G0,1,2", 3, "0@0 >h -1");
            dueDropped("F L0 c0 L3 h L1 t1 L4 h L2 p2 h G0,3,1 G1,4,2", 1, "0@0 c> 1 ^2; 1@3 >h -1; 2@4 >t -1 ^4; 4@6 p>h -1");
        });
        Sentences.part(6, "a block whose guard is at one that is taken away has none then.", () -> {
            dueDropped("F L0 p1 L1 h L2 p2 h G0,1,2", 1, "0@0 p> 1; 1@1 >h -1");
            dueDropped("F L0 p1 L1 h L2 p2 h G0,1,1", 1, "0@0 p> 1 ^1; 1@1 >h -1");
            Blockloom loom = Looms.apart("F L0 p1 L1 h L2 p2 h G0,1,2");
            loom.drop();
            loom.make(1, false);
            Dues.due("none in the new image", "", Looms.guards(loom, 1));
            Dues.due("the old one has it", "0-1^2", Looms.guards(loom, 0));
        });
    }

    private static void folding() {
        Sentences.part(6, "To fold lets a function be the same as the least one that is like it;", () -> {
            dueFolded("F p1 r F p1 r F p1 r F p1 r F p1 r F p1 r F p1 r F p1 r", "00000000");
            dueFolded("F h F p1 r F p2 r F p1 r F p2 r F h F p1 r F p3 r", "01212017");
            dueFolded("F h", "0");
            dueFolded("F h F r", "01");
        });
        Sentences.part(6, "its blocks are taken away.", () -> {
            Blockloom loom = Looms.apart("F c2 h F p1 r F y1,0 p1 L0 r F p1 r F y1,0 p1 L0 r");
            loom.fold();
            StringBuilder there = new StringBuilder();
            for (int block = 0; block < loom.blocks(); block++) there.append(loom.isThere(block) ? 1 : 0);
            Dues.due("there", "111110000", there.toString());
            Dues.due("functions", "0 1 2", Looms.placed(loom));
        });
    }

    private static void dueApart(String one, String two) {
        dueFolded("F m1,1 h F " + one + " F " + two, "012");
        dueFolded("F m1,1 h F " + two + " F " + one, "012");
    }

    private static void dueAlike(String one, String two) {
        dueFolded("F m1,1 h F " + one + " F " + two, "011");
        dueFolded("F m1,1 h F " + two + " F " + one, "011");
    }

    private static void alikeOperations() {
        Sentences.part(6, "Two functions are alike, if, from both first blocks on, blocks come in pairs, which have like operations,", () -> {
            String[] ops = {"s1,5", "s2,5", "s1,6", "a1,2", "a2,2", "a1,3", "b1,2", "m1,2", "p1", "p2", "d1", "d2", "f1", "f2", "c0"};
            for (int one = 0; one < ops.length; one++) {
                dueAlike(ops[one] + " r", "n " + ops[one] + " n n r");
                for (int two = 0; two < one; two++) dueApart(ops[one] + " r", ops[two] + " r");
            }
            dueApart("p1 r", "p1 p1 r");
            dueApart("p1 r", "r");
            dueApart("p1 d1 r", "d1 p1 r");
            dueApart("s1,0 r", "s1,255 r");
        });
        Sentences.part(6, "calls of functions that are alike or one,", () -> {
            dueFolded("F h F c3 r F c4 r F p1 r F p1 r", "01133");
            dueFolded("F h F c3 r F c4 r F p1 r F p2 r", "01234");
            dueFolded("F h F c3 r F c3 r F p1 r", "0113");
            dueFolded("F h F c1 r F c2 r", "011");
            dueFolded("F h F c2 r F c1 r", "011");
            dueFolded("F h F c1 p1 r F c2 p2 r", "012");
            dueFolded("F c1 h F c0 h", "00");
            dueFolded("F h F c2 r F c3 r F c4 r F c1 r", "01111");
            dueFolded("F h F c2 r F c3 r F c4 r F c1 p1 r", "01234");
        });
    }

    private static void alikeEnds() {
        Sentences.part(6, "like ends and registers,", () -> {
            String[] ends = {"r", "h", "t1", "t2", "z1,0 L0 r", "z2,0 L0 r", "z1,0 p1 r L0 r", "y1,0 p1 r L0 r", "L0 j0"};
            for (int one = 0; one < ends.length; one++) {
                dueAlike(ends[one], ends[one].replace("L0 r", "L0 n r"));
                for (int two = 0; two < one; two++) dueApart(ends[one], ends[two]);
            }
            dueAlike("z1,0 p1 r L0 p2 r", "y1,0 p2 r L0 p1 r");
            dueAlike("z1,0 p1 L0 r", "z1,0 p1 j0 L0 r");
            dueFolded("F m1,1 h F L0 w1,0 r T0,0 F L0 w2,1 r T1,0", "012");
        });
        Sentences.part(6, "as many slots,", () -> {
            dueFolded("F m1,1 h F L0 w1,0 r T0,0 F L0 w1,1 r T1,0", "011");
            dueFolded("F m1,1 h F L0 w1,0 r T0,0 F L0 w1,1 r T1,0 T1,0", "012");
            dueFolded("F m1,1 h F L0 w1,0 L1 r T0,1 F L0 w1,1 L1 r T1,1 T1,1", "012");
        });
        Sentences.part(6, "and pairs by slots", () -> {
            dueFolded("F m1,1 h F L0 w1,0 L1 r T0,0 T0,1 F L0 w1,1 L1 r T1,1 T1,0", "012");
            dueApart("z1,0 p1 r L0 p2 r", "z1,0 p1 r L0 p3 r");
            dueApart("z1,0 p1 r L0 p2 r", "z1,0 p2 r L0 p1 r");
            dueApart("L0 p1 j0", "L0 p1 j1 L1 r");
        });
    }

    private static void alikeByGuards() {
        Sentences.part(6, "both a guard or none,", () -> {
            dueApart("L0 t1 L1 r G0,1,1", "t1 r");
            dueApart("L0 p1 L1 r G0,1,1", "p1 L1 r r j1");
            dueAlike("L0 t1 L1 r G0,1,1", "L0 n t1 L1 r G0,1,1");
            dueFolded("F r F L0 t1 L1 r G0,1,1 F t1 r", "012");
            dueFolded("F r F t1 r F L0 t1 L1 r G0,1,1", "012");
        });
        Sentences.part(6, "and by guards;", () -> {
            dueApart("L0 t1 L1 r L2 h G0,1,1", "L0 t1 L1 r L2 h G0,1,2");
            dueApart("L0 t1 L1 p1 r G0,1,1", "L0 t1 L1 p2 r G0,1,1");
            dueAlike("L0 t1 L1 r L2 r G0,1,1", "L0 t1 L1 r L2 r G0,1,2");
            dueAlike("L0 t1 L1 G0,1,0", "L0 t1 L1 r G0,1,0");
        });
    }

    private static void widest() {
        Sentences.part(6, "alike in the widest sense, that is, if nothing tells them apart.", () -> {
            dueAlike("L0 p1 j0", "L0 p1 j1 L1 p1 j0");
            dueAlike("L0 y1,1 p1 j0 L1 r", "L0 y1,1 p1 j2 L2 y1,1 p1 j0 L1 r");
            dueAlike("L0 y1,1 p1 j0 L1 r", "y1,1 p1 j2 L2 y1,1 p1 j2 L1 r");
            dueAlike("z1,0 r L0 r", "z1,0 L0 r");
            dueAlike("p1 r", "p1 r p2 r");
            dueApart("p1 L0 p2 j0", "p1 L0 p2 j1 L1 p1 j0");
            dueApart("j0 L0 p1 r", "p1 r");
        });
    }

    private static void forgetting() {
        Sentences.part(6, "All flows are 0 behind threading, dropping and folding, orders are as read, and functions by numbers.", () -> {
            for (int way = 0; way < 6; way++) {
                boolean isIdle = way > 2;
                Blockloom loom = Looms.apart(isIdle ? "F z1,0 p1 h L0 p2 h F p3 h" : "F z1,0 p1 h L0 p2 h n p4 j0 F p3 h F p3 h");
                loom.count(0, 0, 5);
                loom.count(0, -1, 5);
                loom.count(2, 0, 5);
                int other = loom.blocks() - (isIdle ? 1 : 2);
                loom.count(other, 0, 9);
                loom.count(other, -1, 9);
                loom.letFlow(0);
                loom.letFlow(1);
                loom.order(0);
                loom.place();
                Dues.due("ordered", true, Looms.order(loom, 0).startsWith("0 2 1") && Looms.placed(loom).startsWith("1 0"));
                int changed = way % 3 == 0 ? loom.thread() : way % 3 == 1 ? loom.drop() : loom.fold();
                Dues.due("changed by " + way, !isIdle && way != 0, changed > 0);
                Dues.due("no flows", false, Looms.counts(loom, true).matches(".*[1-9].*"));
                Dues.due("no weights", 0, loom.weight(0) + loom.weight(2) + loom.gain(0));
                Dues.due("as read", true, Looms.order(loom, 0).startsWith("0 1 2"));
                Dues.due("by numbers", true, Looms.placed(loom).startsWith("0 1"));
                Dues.due("counts stay", "5/5 0", Looms.counts(loom, false).substring(0, 5));
                Dues.due("sound", true, loom.isSound());
            }
        });
    }

    private static void promiseThread() {
        Sentences.promise(39, "Threads all blocks.", () -> {
            Blockloom loom = Looms.apart("F j0 L0 j1 L1 h F j0 L0 j1 L1 r");
            Dues.due("of both functions", 2, loom.thread());
            Dues.due("slots", "2 5", loom.successor(0, 0) + " " + loom.successor(3, 0));
        });
        Sentences.promise(39, "Returns how many slots go elsewhere then.", () -> {
            Dues.due("none", 0, Looms.apart("F h").thread());
            Dues.due("six of one switch", 7, Looms.apart("F w1,0 L0 j1 L1 j2 L2 h T0,0 T0,0 T0,0 T0,0 T0,0").thread());
            Dues.due("not those that stay", 0, Looms.apart("F j0 L0 j0").thread());
            Blockloom loom = Looms.apart("F j0 L0 j1 L1 h");
            loom.thread();
            Dues.due("none again", 0, loom.thread());
        });
        Sentences.promise(39, NOT_APART, () -> Sentences.needsApart(Blockloom::thread));
    }

    private static void promiseDrop() {
        Sentences.promise(40, "Drops blocks.", () -> dueDropped("F h h F r r", 2, "0@0 >h -1; 2@2 >r -1"));
        Sentences.promise(40, "Returns how many were taken away.", () -> {
            Dues.due("none", 0, Looms.apart("F h").drop());
            StringBuilder text = new StringBuilder("F h");
            for (int many = 0; many < 39; many++) text.append(" h");
            Blockloom loom = Looms.apart(text.toString());
            Dues.due("all but the first one", 39, loom.drop());
            Dues.due("none again", 0, loom.drop());
        });
        Sentences.promise(40, NOT_APART, () -> Sentences.needsApart(Blockloom::drop));
    }

    private static void promiseFold() {
        Sentences.promise(41, "Folds functions.", () -> dueFolded("F c1 c2 h F p1 r F p1 r", "011"));
        Sentences.promise(41, "Returns how many were folded by this.", () -> {
            Dues.due("none", 0, Looms.apart("F h").fold());
            Blockloom loom = Looms.apart("F h F h F h F h F h F h F h F h");
            Dues.due("seven", 7, loom.fold());
            Dues.due("none again", 0, loom.fold());
            Blockloom more = Looms.apart("F L0 p1 r L1 t1 G0,1,1 F p1 r F p1 r");
            Dues.due("one", 1, more.fold());
            more.drop();
            Dues.due("one more by this", 1, more.fold());
            Dues.due("both are the same", "0 0", more.same(1) + " " + more.same(2));
            Dues.due("without pieces", 0, Looms.withoutPiece().fold());
        });
        Sentences.promise(41, NOT_APART, () -> Sentences.needsApart(Blockloom::fold));
    }

    private static void promiseSame() {
        Sentences.promise(42, "Returns with which function one is the same.", () -> Dues.due("same", 1, Looms.takenAway().same(2)));
        Sentences.promise(42, "`function`: its number", () -> {
            Blockloom loom = Looms.apart("F h F h F h F h F h F h F h F h");
            for (int function = 0; function < 8; function++) Dues.due("itself", function, loom.same(function));
            loom.fold();
            for (int function = 0; function < 8; function++) Dues.due("the least", 0, loom.same(function));
        });
        Sentences.promise(42, "Returns that, itself if it is not folded.", () -> {
            Blockloom loom = Looms.withoutPiece();
            Dues.due("without a piece", "0 1 1", loom.same(0) + " " + loom.same(1) + " " + loom.same(2));
            Dues.due("not folded", "0 1", Looms.takenAway().same(0) + " " + Looms.takenAway().same(1));
        });
        Sentences.promise(42, NOT_APART, () -> Sentences.needsApart(loom -> loom.same(0)));
        Sentences.promise(42, "Throws `IndexOutOfBoundsException` if there is no such function", () -> {
            Sentences.needsFunction(Blockloom::same, false);
            Dues.due("there is one without blocks", 1, Looms.takenAway().same(2));
        });
    }
}
