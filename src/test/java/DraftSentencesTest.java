/** Part 1 and the promises 1 to 8, sentence by sentence: the draft. */
final class DraftSentencesTest {
    private static final Class<IllegalStateException> STATE = IllegalStateException.class;
    private static final Class<IllegalArgumentException> ARGUMENT = IllegalArgumentException.class;
    private static final Class<UnsupportedOperationException> UNSUPPORTED = UnsupportedOperationException.class;
    private static final int[] FAR = {-1, Integer.MIN_VALUE, Integer.MAX_VALUE};

    public static void main(String[] args) {
        Sentences.openPart(1);
        Sentences.openPromises(1, 8);
        functions();
        operations();
        goings();
        tables();
        guards();
        newObject();
        promiseFunction();
        promiseOp();
        promiseLabel();
        promiseTable();
        promiseGuard();
        promiseWipe();
        promiseLink();
        refusedLinks();
        Sentences.close("DraftSentencesTest");
    }

    private static void dueRun(String text, String prints, int... fed) {
        Blockloom loom = Looms.linked(text);
        for (int number : fed) loom.feed(number);
        loom.run(0);
        Dues.due("run of " + text + " " + java.util.Arrays.toString(fed), prints, Looms.prints(loom) + " " + loom.end());
    }

    private static Blockloom begun() {
        return Looms.drafted("F");
    }

    private static void functions() {
        Sentences.part(1, "Functions 0 to 7 are drafted one behind the other", () -> {
            Blockloom loom = new Blockloom();
            for (int function = 0; function < 8; function++) {
                Dues.due("number", function, loom.function());
                loom.op('s', function, function);
                loom.op('r', 0, 0);
            }
            Dues.refused("no function 8", STATE, loom::function);
            Dues.due("all are linked", 24, loom.link());
            for (int function = 0; function < 8; function++) {
                Dues.due("begin", 3 * function, loom.begins(0, function));
                Dues.due("number of " + function, function, loom.byteAt(0, 3 * function + 1));
            }
        });
        Sentences.part(1, "each with at most 40 operations", () -> {
            Blockloom loom = new Blockloom();
            for (int function = 0; function < 8; function++) {
                loom.function();
                for (int many = 1; many <= 40; many++) Dues.due("op", many, loom.op('n', 0, 0));
                Dues.refused("one more", STATE, () -> loom.op('n', 0, 0));
            }
            Dues.due("40 by 8", 320, loom.link());
        });
        Sentences.part(1, "and the labels 0 to 9", () -> {
            Blockloom loom = new Blockloom();
            for (int function = 0; function < 8; function++) {
                loom.function();
                for (int label = 0; label < 10; label++) Dues.due("label", 0, loom.label(label));
                Dues.refused("label 10", ARGUMENT, () -> loom.label(10));
                for (int label = 0; label < 10; label++) loom.op('j', 0, label);
            }
            Dues.due("each has its own", 240, loom.link());
            Dues.due("the last one goes to its function", "81 255 226", Looms.bytes(loom, 0).substring(Looms.bytes(loom, 0).length() - 10));
        });
        Sentences.part(1, "which stand ahead of the operation that comes next, or at the end of the function", () -> {
            dueRun("F s1,1 s2,2 j0 p1 L0 p2 h", "2 h");
            Blockloom loom = Looms.linked("F s1,1 j0 h L0 F p1 h");
            Dues.due("at the end", "9 1 81 0 1 83 41 83", Looms.bytes(loom, 0));
            loom.run(0);
            Dues.due("goes on behind", "1", Looms.prints(loom));
            Dues.due("behind all", "81 0 1 83", Looms.bytes(Looms.linked("F j9 h L9"), 0));
            dueRun("F j9 h L9", " i");
        });
    }

    private static void operations() {
        Sentences.part(1, "An operation has a sign, and perhaps a register, 0 to 7, and a number.", () -> {
            for (int register = 0; register < 8; register++) {
                String text = "F".concat(" s$,9 a$,1 b$,1 m$,1 p$ d$ L0 z$,0 y$,0 w$,0 f$ t$".replace("$", "" + register));
                String[] bytes = Looms.bytes(Looms.linked(text), 0).split(" ");
                int[] places = {0, 2, 4, 6, 8, 9, 10, 13, 16, 18, 19};
                int[] kinds = {1, 2, 3, 4, 5, 14, 8, 9, 12, 15, 13};
                for (int index = 0; index < places.length; index++) {
                    Dues.due("byte " + places[index], "" + (kinds[index] * 8 + register), bytes[places[index]]);
                }
            }
        });
        Sentences.part(1, "'s' sets the register to the number, 0 to 255;", () -> dueRun("F s1,255 p1 s1,0 p1 h", "255 0 h"));
        Sentences.part(1, "'a', 'b', 'm' add to it, take from it, multiply it by the register whose number, 0 to 7, is told;",
            () -> dueRun("F s0,6 s7,7 a0,7 p0 b0,7 p0 m0,7 p0 a7,0 p7 b7,7 p7 m0,7 p0 h", "13 6 42 49 0 0 h"));
        Sentences.part(1, "'p' prints it;", () -> dueRun("F s0,1 s7,2 p0 p7 p1 h", "1 2 0 h"));
        Sentences.part(1, "'d' lets it become the next number to read, 0 if there is none;", () -> {
            dueRun("F s1,5 d1 p1 s1,5 d1 p1 h", "9 0 h", 9);
            dueRun("F s1,5 d1 p1 s1,5 d1 p1 h", "0 0 h");
            dueRun("F d1 p1 d1 p1 h", "-2147483648 2147483647 h", Integer.MIN_VALUE, Integer.MAX_VALUE, 3);
        });
        Sentences.part(1, "'c' calls the function told;", () -> {
            dueRun("F s1,3 c7 p1 h F h F h F h F h F h F h F s1,8 r", "8 h");
            dueRun("F d1 p1 y1,0 r L0 c0 h", "6 0 h", 6);
        });
        Sentences.part(1, "'f' that whose number the register has;", () -> {
            dueRun("F s7,7 f7 p1 h F h F h F h F h F h F h F s1,8 r", "8 h");
            dueRun("F d1 p1 y1,0 r L0 f7 h", "6 0 h", 6);
        });
        Sentences.part(1, "'t' throws what the register has;", () -> dueRun("F L0 s0,1 s7,9 t7 L1 h L2 p0 h G0,1,2", "9 h"));
        Sentences.part(1, "'r' returns;", () -> dueRun("F c1 p1 r F s1,4 r s1,5 r", "4 r"));
        Sentences.part(1, "'h' halts;", () -> dueRun("F c1 p1 h F p1 h p1 r", "0 h"));
        Sentences.part(1, "'n' does nothing.", () -> dueRun("F n n p0 n n h n", "0 h"));
    }

    private static void goings() {
        Sentences.part(1, "The signs, with what they do: 's' sets", () -> {
            for (int sign = 0; sign < 256; sign++) {
                char letter = (char) sign;
                boolean isSign = "sabmpdzyjwcftrhn".indexOf(letter) >= 0;
                Dues.due("sign " + sign, isSign, Dues.of(() -> begun().op(letter, 0, 0)).equals(1));
            }
        });
        Sentences.part(1, "'z', 'y' go to the label told if it is 0, or is not;", () -> {
            String text = "F d1 z1,0 s2,1 p2 L0 y1,1 s2,2 p2 L1 h";
            dueRun(text, "2 h", 0);
            for (int number : new int[] {1, -1, 256, Integer.MIN_VALUE, Integer.MAX_VALUE}) dueRun(text, "1 h", number);
        });
        Sentences.part(1, "'j' goes to the label told;", () -> dueRun("F j1 L0 p0 h L1 s0,1 j0", "1 h"));
        Sentences.part(1, "'w' goes to the label that stands in the table told, 0 to 3, at the index that the register has, "
            + "and on, if there is none;", () -> {
                for (int table = 0; table < 4; table++) {
                    String text = ("F d1 w1,$ s2,9 p2 h L0 s2,0 p2 h L1 s2,1 p2 h L2 s2,2 p2 h L3 s2,3 p2 h L4 s2,4 p2 h"
                        + " T$,0 T$,1 T$,2 T$,3 T$,4").replace("$", "" + table);
                    for (int index = 0; index < 5; index++) dueRun(text, index + " h", index);
                    dueRun(text, "9 h", 5);
                    for (int index : FAR) dueRun(text, "9 h", index);
                }
                dueRun("F w1,3 p1 h L0 h T2,0", "0 h");
                dueRun("F d1 w1,0 p1 h L0 h T0,0", "1 h", 1);
            });
    }

    private static void tables() {
        Sentences.part(1, "A table has at most 5 labels of one function, the one in which it got its first one.", () -> {
            Blockloom loom = begun();
            for (int many = 1; many <= 5; many++) Dues.due("table", many, loom.table(2, many));
            Dues.refused("sixth label", STATE, () -> loom.table(2, 1));
            Dues.due("another table", 1, loom.table(0, 9));
            loom.function();
            Dues.due("first one here", 1, loom.table(1, 0));
            Dues.refused("of the function 0", STATE, () -> loom.table(0, 0));
            Dues.due("of this one", 2, loom.table(1, 0));
            loom.function();
            Dues.refused("of the function 1", STATE, () -> loom.table(1, 0));
            Blockloom two = Looms.linked("F L0 h F L0 r L1 r T1,0 T1,1");
            Dues.due("labels of its function", "1 2", Looms.table(two, 0, 1));
        });
    }

    private static void guards() {
        Sentences.part(1, "A guard has three labels of one function:", () -> {
            Blockloom loom = Looms.linked("F L0 p1 L1 h L2 r F L0 p2 p2 L1 h L2 r G0,1,2");
            Dues.due("of the one in which it came", "3-5^6", Looms.guards(loom, 0));
        });
        Sentences.part(1, "operations from the first one on, up to the second one, are guarded by the third one;", () -> {
            String text = "F s1,5 $ L0 $ n $ L1 $ h L2 p0 h G0,1,2";
            String[] ends = {" u", "5 h", "5 h", " u"};
            for (int place = 0; place < 4; place++) {
                String draft = text;
                for (int other = 0; other < 4; other++) draft = draft.replaceFirst("\\$", other == place ? "t1" : "n");
                dueRun(draft, ends[place]);
            }
        });
        Sentences.part(1, "there are at most 8, in the order in which they came.", () -> {
            Blockloom loom = Looms.drafted("F L0 p1 L1 h L2 r F L0 p2 p2 L1 h L2 r");
            for (int many = 1; many <= 8; many++) Dues.due("guard", many, loom.guard(0, 1, many % 3));
            Dues.refused("ninth", STATE, () -> loom.guard(0, 1, 2));
            loom.link();
            Dues.due("in their order", "3-5^5 3-5^6 3-5^3 3-5^5 3-5^6 3-5^3 3-5^5 3-5^6", Looms.guards(loom, 0));
        });
    }

    private static void newObject() {
        Sentences.promise(1, "Creates it without a draft, images and numbers to read.", () -> {
            Dues.due("no functions", 0, new Blockloom().wipe());
            Dues.due("no numbers", 0, new Blockloom().clear());
            Dues.due("no bytes", 0, new Blockloom().size(0) + new Blockloom().size(1));
            Dues.refused("nothing to link", UNSUPPORTED, () -> new Blockloom().link());
            Dues.refused("nothing to run", java.util.NoSuchElementException.class, () -> new Blockloom().run(0));
            Dues.refused("nothing new", java.util.NoSuchElementException.class, () -> new Blockloom().run(1));
            Dues.due("no table", 1, begun().table(0, 0));
            Dues.due("no label", 0, begun().label(0));
            Dues.due("no guard", 1, begun().guard(0, 0, 0));
        });
    }

    private static void promiseFunction() {
        Sentences.promise(2, "Begins the next function; operations, labels and guards are of it then.", () -> {
            Blockloom loom = Looms.drafted("F L0 p1 p1 L1 h G0,1,0 F");
            Dues.due("first operation", 1, loom.op('p', 2, 0));
            Dues.due("first label", 1, loom.label(1));
            loom.op('h', 0, 0);
            loom.label(0);
            Dues.due("second guard", 2, loom.guard(1, 0, 1));
            Dues.due("both", 5, loom.link());
            Dues.due("of the functions", "0-2^0 4-5^4", Looms.guards(loom, 0));
        });
        Sentences.promise(2, "Returns its number.", () -> {
            Blockloom loom = new Blockloom();
            for (int number = 0; number < 8; number++) Dues.due("number", number, loom.function());
            loom.wipe();
            Dues.due("number behind a wipe", 0, loom.function());
        });
        Sentences.promise(2, "Throws `IllegalStateException` if there are 8", () -> {
            Sentences.refused(STATE, () -> Looms.drafted("F r F r F r F r F r F r F r F p1 r"), Blockloom::function);
            Sentences.refused(STATE, () -> Looms.drafted("F F F F F F F F"), Blockloom::function);
            Dues.due("there are 7", 7, Looms.drafted("F F F F F F F").function());
        });
    }

    private static void promiseOp() {
        Sentences.promise(3, "Adds an operation; what its sign does not have is not looked at.", () -> {
            for (int far : FAR) {
                Blockloom loom = Looms.drafted("F L0");
                for (char sign : "jcrhn".toCharArray()) Dues.due("without a register", true, Dues.of(() -> loom.op(sign, far, 0)) instanceof Integer);
                for (char sign : "pdftrhn".toCharArray()) Dues.due("without a number", true, Dues.of(() -> loom.op(sign, 3, far)) instanceof Integer);
                loom.link();
                Dues.due("bytes", "81 255 253 88 255 250 82 83 0 43 115 123 107 82 83 0", Looms.bytes(loom, 0));
            }
        });
        Sentences.promise(3, "`sign`: as told", () -> {
            for (int sign = 0; sign < 65536; sign++) {
                char letter = (char) sign;
                if ("sabmpdzyjwcftrhn".indexOf(letter) >= 0) Dues.due("sign " + letter, 1, () -> begun().op(letter, 0, 0));
                else if (sign < 300 || sign % 97 == 0 || sign == 65535) Dues.refused("sign " + sign, ARGUMENT, () -> begun().op(letter, 0, 0));
            }
        });
        Sentences.promise(3, "`register`: 0 to 7", () -> {
            for (char sign : "sabmpdzywft".toCharArray()) {
                for (int register = 0; register < 8; register++) {
                    int number = register;
                    Dues.due("register " + register + " of " + sign, 1, () -> begun().op(sign, number, 0));
                }
                Dues.refused("register 8 of " + sign, ARGUMENT, () -> begun().op(sign, 8, 0));
                for (int far : FAR) Dues.refused("register " + far + " of " + sign, ARGUMENT, () -> begun().op(sign, far, 0));
            }
        });
        String[] highest = {"s255", "a7", "b7", "m7", "z9", "y9", "j9", "w3", "c7"};
        Sentences.promise(3, "`number`: of 's' 0 to 255, of 'a', 'b', 'm' a register, of 'z', 'y', 'j' a label, of 'w' a table, "
            + "of 'c' a function, 0 to 7", () -> {
                for (String word : highest) {
                    char sign = word.charAt(0);
                    int most = Integer.parseInt(word.substring(1));
                    Dues.due("least of " + sign, 1, () -> begun().op(sign, 0, 0));
                    Dues.due("most of " + sign, 1, () -> begun().op(sign, 0, most));
                    Dues.refused("one more than that of " + sign, ARGUMENT, () -> begun().op(sign, 0, most + 1));
                    for (int far : FAR) Dues.refused(far + " of " + sign, ARGUMENT, () -> begun().op(sign, 0, far));
                }
            });
        Sentences.promise(3, "Returns how many the function has then.", () -> {
            Blockloom loom = begun();
            for (int many = 1; many <= 40; many++) Dues.due("op", many, loom.op('p', 1, 0));
            loom.function();
            Dues.due("op of the next one", 1, loom.op('p', 1, 0));
        });
        Sentences.promise(3, "Throws `IllegalArgumentException` if there is no such sign, or something is out of range", () ->
            Sentences.refused(ARGUMENT, () -> Looms.drafted("F L0 p1"), loom -> loom.op('q', 0, 0), loom -> loom.op('s', 8, 0),
                loom -> loom.op('s', -1, 0), loom -> loom.op('s', 0, 256), loom -> loom.op('s', 0, -1), loom -> loom.op('a', 0, 8),
                loom -> loom.op('z', 0, 10), loom -> loom.op('w', 0, 4), loom -> loom.op('c', 0, 8), loom -> loom.op('p', 8, 0),
                loom -> loom.op('y', 8, 10), loom -> loom.op('j', 0, -1)));
        Sentences.promise(3, "Throws `IllegalStateException` if no function was begun, or it has 40", () -> {
            Sentences.refused(STATE, Blockloom::new, loom -> loom.op('h', 0, 0), loom -> loom.op('s', 7, 255));
            Sentences.refused(STATE, DraftSentencesTest::wiped, loom -> loom.op('h', 0, 0));
            Sentences.refused(STATE, () -> withOps(40), loom -> loom.op('h', 0, 0), loom -> loom.op('n', -1, -1));
            Dues.due("it has 39", 40, withOps(39).op('h', 0, 0));
        });
    }

    private static Blockloom wiped() {
        Blockloom loom = Looms.drafted("F L0 p1 h L1 G0,1,0 T0,0");
        loom.wipe();
        return loom;
    }

    private static Blockloom withOps(int many) {
        Blockloom loom = begun();
        for (int op = 0; op < many; op++) loom.op('p', op % 8, 0);
        return loom;
    }

    private static void promiseLabel() {
        Sentences.promise(4, "Lets a label stand ahead of the next operation of the function.", () -> {
            Blockloom loom = Looms.linked("F j0 p1 L0 p2 h");
            Dues.due("the way", "81 0 1 41 42 83", Looms.bytes(loom, 0));
        });
        Sentences.promise(4, "`label`: 0 to 9", () -> {
            for (int label = 0; label < 10; label++) {
                int number = label;
                Dues.due("label " + label, 0, () -> begun().label(number));
            }
            Dues.refused("label 10", ARGUMENT, () -> begun().label(10));
            for (int far : FAR) Dues.refused("label " + far, ARGUMENT, () -> begun().label(far));
        });
        Sentences.promise(4, "Returns how many operations stand ahead of it.", () -> {
            Dues.due("none", 0, begun().label(0));
            Dues.due("one", 1, withOps(1).label(0));
            Dues.due("all", 40, withOps(40).label(9));
            Dues.due("of this function", 0, () -> Looms.drafted("F p1 p1 F").label(3));
        });
        Sentences.promise(4, "Throws `IllegalArgumentException` if it is out of range", () ->
            Sentences.refused(ARGUMENT, () -> Looms.drafted("F L0 p1"), loom -> loom.label(10), loom -> loom.label(-1),
                loom -> loom.label(Integer.MAX_VALUE), loom -> loom.label(Integer.MIN_VALUE)));
        Sentences.promise(4, "Throws `IllegalStateException` if no function was begun, or the label stands already", () -> {
            Sentences.refused(STATE, Blockloom::new, loom -> loom.label(0), loom -> loom.label(9));
            Sentences.refused(STATE, DraftSentencesTest::wiped, loom -> loom.label(0));
            Sentences.refused(STATE, () -> Looms.drafted("F L0 j0 p1 L9 p2 j9"), loom -> loom.label(0), loom -> loom.label(9));
            Dues.due("it stands in another function", 0, Looms.drafted("F L0 p1 F").label(0));
            Dues.due("another one stands there", 1, Looms.drafted("F L1 p1 L2").label(0));
        });
    }

    private static void promiseTable() {
        Sentences.promise(5, "Adds a label of the function to a table.", () -> {
            Blockloom loom = Looms.linked("F L0 L1 h F L0 p1 L1 r T3,1 T3,0 T3,1");
            Dues.due("addresses", "2 1 2", Looms.table(loom, 0, 3));
        });
        Sentences.promise(5, "`table`: 0 to 3", () -> {
            for (int table = 0; table < 4; table++) {
                int number = table;
                Dues.due("table " + table, 1, () -> begun().table(number, 0));
            }
            Dues.refused("table 4", ARGUMENT, () -> begun().table(4, 0));
            for (int far : FAR) Dues.refused("table " + far, ARGUMENT, () -> begun().table(far, 0));
        });
        Sentences.promise(5, "`label`: 0 to 9", () -> {
            for (int label = 0; label < 10; label++) {
                int number = label;
                Dues.due("label " + label, 1, () -> begun().table(0, number));
            }
            Dues.refused("label 10", ARGUMENT, () -> begun().table(0, 10));
            for (int far : FAR) Dues.refused("label " + far, ARGUMENT, () -> begun().table(0, far));
        });
        Sentences.promise(5, "Returns how many the table has then.", () -> {
            Blockloom loom = begun();
            for (int many = 1; many <= 5; many++) {
                for (int table = 0; table < 4; table++) Dues.due("table " + table, many, loom.table(table, 9 - table));
            }
        });
        Sentences.promise(5, "Throws `IllegalArgumentException` if one is out of range", () ->
            Sentences.refused(ARGUMENT, () -> Looms.drafted("F L0 p1 T0,0"), loom -> loom.table(4, 0), loom -> loom.table(-1, 0),
                loom -> loom.table(0, 10), loom -> loom.table(0, -1), loom -> loom.table(4, 10)));
        Sentences.promise(5, "Throws `IllegalStateException` if no function was begun, the table is of another one, or has 5", () -> {
            Sentences.refused(STATE, Blockloom::new, loom -> loom.table(0, 0), loom -> loom.table(3, 9));
            Sentences.refused(STATE, DraftSentencesTest::wiped, loom -> loom.table(0, 0));
            Sentences.refused(STATE, () -> Looms.drafted("F L0 r T3,0 F L0 r"), loom -> loom.table(3, 0));
            Sentences.refused(STATE, () -> Looms.drafted("F L0 r T3,0 T3,0 T3,0 T3,0 T3,0"), loom -> loom.table(3, 0));
            Dues.due("it has 4", 5, Looms.drafted("F T3,0 T3,0 T3,0 T3,0").table(3, 0));
            Dues.due("it has none in another function", 1, Looms.drafted("F F").table(3, 0));
        });
    }

    private static void promiseGuard() {
        Sentences.promise(6, "Adds a guard of the function.", () -> {
            Blockloom loom = Looms.linked("F L0 L1 L2 h F L0 p1 L1 p1 L2 r G0,2,1");
            Dues.due("addresses", "1-3^2", Looms.guards(loom, 0));
        });
        String[] words = {"`from`: a label", "`to`: a label, up to which it guards", "`at`: a label"};
        for (int which = 0; which < 3; which++) {
            int place = which;
            Sentences.promise(6, words[which], () -> {
                for (int label = 0; label < 10; label++) Dues.due("label " + label, 1, guardOf(begun(), place, label));
                Dues.refused("label 10", ARGUMENT, () -> guardOf(begun(), place, 10));
                for (int far : FAR) Dues.refused("label " + far, ARGUMENT, () -> guardOf(begun(), place, far));
            });
        }
        Sentences.promise(6, "Returns how many there are then.", () -> {
            Blockloom loom = begun();
            for (int many = 1; many <= 5; many++) Dues.due("guard", many, loom.guard(0, 1, 2));
            loom.function();
            for (int many = 6; many <= 8; many++) Dues.due("guard", many, loom.guard(0, 1, 2));
        });
        Sentences.promise(6, "Throws `IllegalArgumentException` if one is out of range", () -> {
            for (int which = 0; which < 3; which++) {
                int place = which;
                Sentences.refused(ARGUMENT, () -> Looms.drafted("F L0 p1 L1 r G0,1,0"), loom -> guardOf(loom, place, 10),
                    loom -> guardOf(loom, place, -1), loom -> guardOf(loom, place, Integer.MAX_VALUE));
            }
        });
        Sentences.promise(6, "Throws `IllegalStateException` if no function was begun, or there are 8", () -> {
            Sentences.refused(STATE, Blockloom::new, loom -> loom.guard(0, 1, 2), loom -> loom.guard(9, 9, 9));
            Sentences.refused(STATE, DraftSentencesTest::wiped, loom -> loom.guard(0, 1, 0));
            String four = " L0 p1 L1 r G0,1,0 G0,1,1 G0,1,0 G0,1,1";
            Sentences.refused(STATE, () -> Looms.drafted("F" + four + " F" + four), loom -> loom.guard(0, 1, 0));
            Dues.due("there are 7", 8, Looms.drafted("F" + four + " G0,0,0 G1,1,1 G2,2,2").guard(0, 1, 2));
        });
    }

    private static int guardOf(Blockloom loom, int place, int label) {
        return loom.guard(place == 0 ? label : 0, place == 1 ? label : 0, place == 2 ? label : 0);
    }

    private static void promiseWipe() {
        Sentences.promise(7, "Takes the whole draft away; images stay.", () -> {
            Blockloom loom = Looms.full();
            String images = Looms.bytes(loom, 0) + Looms.bytes(loom, 1) + Looms.blocks(loom) + Looms.guards(loom, 0);
            loom.wipe();
            Dues.due("images", images, Looms.bytes(loom, 0) + Looms.bytes(loom, 1) + Looms.blocks(loom) + Looms.guards(loom, 0));
            Dues.refused("nothing to link", UNSUPPORTED, loom::link);
            Dues.due("a function", 0, loom.function());
            Dues.due("an operation", 1, loom.op('h', 0, 0));
            for (int label = 0; label < 10; label++) Dues.due("a label", 1, loom.label(label));
            for (int table = 0; table < 4; table++) Dues.due("a table", 1, loom.table(table, 0));
            Dues.due("a guard", 1, loom.guard(0, 1, 2));
            loom.wipe();
            for (int owner = 0; owner < 3; owner++) {
                Looms.draft(loom, "F L0 r F L0 r F L0 r".substring(0, 7 * owner + 6));
                for (int table = 0; table < 4; table++) Dues.due("of the function " + owner, 1, loom.table(table, 0));
                loom.wipe();
            }
            Looms.draft(loom, "F L0 r F L0 r T0,0 T1,0 T2,0 T3,0");
            loom.wipe();
            loom.function();
            Dues.due("of the function 0 again", 1, loom.table(0, 0));
            loom.wipe();
            Looms.draft(loom, "F r");
            Dues.due("no tables and guards", 1, loom.link());
            Dues.due("none", "", Looms.guards(loom, 0) + Looms.table(loom, 0, 0));
        });
        Sentences.promise(7, "Returns how many functions it had.", () -> {
            Blockloom loom = new Blockloom();
            Dues.due("none", 0, loom.wipe());
            for (int many = 1; many <= 8; many++) loom.function();
            Dues.due("8", 8, loom.wipe());
            Dues.due("none then", 0, loom.wipe());
        });
    }

    private static void promiseLink() {
        Sentences.promise(8, "Makes the old image from the draft, which stays; the new one is made no more.", () -> {
            Blockloom loom = Looms.apart("F p1 h");
            loom.make(1, false);
            loom.poke(0, 42);
            Dues.due("linked", 2, loom.link());
            Dues.due("from the draft", "41 83", Looms.bytes(loom, 0));
            loom.apart();
            loom.make(1, false);
            Dues.due("an operation more", 3, loom.op('h', 0, 0));
            Dues.due("linked again", 3, loom.link());
            Dues.due("no new one", 0, loom.size(1));
            Dues.refused("none to adopt", java.util.NoSuchElementException.class, loom::adopt);
            Dues.refused("not apart", UNSUPPORTED, loom::blocks);
            Dues.due("it had one function", 1, loom.wipe());
        });
        Sentences.promise(8, "Returns how many bytes it has.", () -> {
            Dues.due("least", 1, Looms.drafted("F n").link());
            StringBuilder text = new StringBuilder();
            for (int function = 0; function < 8; function++) {
                text.append(" F L0");
                for (int many = 0; many < 40; many++) text.append(" z1,0");
            }
            Blockloom loom = Looms.drafted(text.toString());
            Dues.due("most", 960, loom.link());
            Dues.due("size", 960, loom.size(0));
            Dues.due("last byte, of a way of -120", 136, loom.byteAt(0, 959));
        });
    }

    private static void refusedLinks() {
        String words = "Throws `UnsupportedOperationException` if there is no function";
        Sentences.promise(8, words, () -> {
            Sentences.refused(UNSUPPORTED, Blockloom::new, Blockloom::link);
            Sentences.refused(UNSUPPORTED, () -> {
                Blockloom loom = Looms.full();
                loom.wipe();
                return loom;
            }, Blockloom::link);
        });
        Sentences.promise(8, "one without operations", () -> {
            for (String text : new String[] {"F", "F h F", "F F h", "F L0", "F h F L0 F h"}) refusedLink(text);
        });
        Sentences.promise(8, "a label that is used and does not stand", () -> {
            String[] texts = {"F j0", "F z1,9 L0 h", "F L1 y1,0 h", "F h T0,0", "F L0 h T3,0 T3,9", "F L0 L1 h G0,1,2",
                "F L0 L1 h G0,2,1", "F L0 L1 h G2,0,1", "F L0 h F j0 h", "F j0 h F L0 h"};
            for (String text : texts) refusedLink(text);
            Dues.due("unless it is used", 1, Looms.drafted("F h L0").link());
            Dues.due("a table without labels has none", 3, Looms.drafted("F w1,3 h").link());
        });
        Sentences.promise(8, "or a function called that there is not", () -> {
            for (String text : new String[] {"F c1 h", "F c7 h F h F h F h F h F h F h", "F h F c2 h"}) refusedLink(text);
            Dues.due("there are 8", 11, Looms.drafted("F c7 h F h F h F h F h F h F h F h").link());
            Dues.due("by a register all can be told", 4, Looms.drafted("F s1,9 f1 h").link());
        });
    }

    private static void refusedLink(String text) {
        Sentences.refused(UNSUPPORTED, () -> Looms.drafted(text), Blockloom::link);
        Sentences.refused(UNSUPPORTED, () -> {
            Blockloom loom = Looms.full();
            loom.wipe();
            Looms.draft(loom, text);
            return loom;
        }, Blockloom::link);
    }
}
