import java.util.NoSuchElementException;

/** Part 2 and the promises 9 to 16, sentence by sentence: images. */
final class ImagesSentencesTest {
    private static final Class<IllegalArgumentException> ARGUMENT = IllegalArgumentException.class;
    private static final Class<NoSuchElementException> NONE = NoSuchElementException.class;
    private static final Class<UnsupportedOperationException> UNSUPPORTED = UnsupportedOperationException.class;
    private static final int[] FAR = {-1, Integer.MIN_VALUE, Integer.MAX_VALUE};

    public static void main(String[] args) {
        Sentences.openPart(2);
        Sentences.openPromises(9, 16);
        parts();
        kinds();
        jumpKinds();
        ways();
        noOperations();
        linked();
        promiseSize();
        promiseByteAt();
        promisePoke();
        promiseBegins();
        promisePiece();
        promiseTableAt();
        promiseGuardAt();
        promiseAdopt();
        Sentences.close("ImagesSentencesTest");
    }

    /** Runs bytes: prints, end, works, jumps. */
    private static String ran(int... bytes) {
        Blockloom loom = Looms.code(bytes);
        int works = loom.run(0);
        return (Looms.prints(loom) + " " + loom.end() + " " + works + " " + loom.told('j')).trim();
    }

    /** Bytes of 'n', but for those that are told behind their addresses. */
    private static int[] row(int length, int[]... placed) {
        int[] bytes = new int[length];
        for (int[] part : placed) System.arraycopy(part, 1, bytes, part[0], part.length - 1);
        return bytes;
    }

    private static int[] at(int... addressAndBytes) {
        return addressAndBytes;
    }

    private static void parts() {
        Sentences.part(2, "An image has code, a row of bytes by addresses from 0;", () -> {
            Blockloom loom = Looms.linked("F s1,200 h");
            Dues.due("first", 9, loom.byteAt(0, 0));
            Dues.due("second", 200, loom.byteAt(0, 1));
            Dues.due("last", 83, loom.byteAt(0, 2));
        });
        Sentences.part(2, "the addresses at which functions begin;", () -> {
            Blockloom loom = Looms.linked("F s1,200 h F h F h");
            Dues.due("begins", "0 3 4", loom.begins(0, 0) + " " + loom.begins(0, 1) + " " + loom.begins(0, 2));
        });
        Sentences.part(2, "pieces, each of a function, from an address up to another one;", () ->
            Dues.due("pieces", "0:0-3 1:3-4 2:4-5", Looms.pieces(Looms.linked("F s1,200 h F h F h"), 0)));
        Sentences.part(2, "tables of addresses;", () -> {
            Blockloom loom = Looms.linked("F L0 n L1 h L2 T1,2 T1,0 T3,1");
            Dues.due("tables", "/2 0//1", Looms.table(loom, 0, 0) + "/" + Looms.table(loom, 0, 1) + "/"
                + Looms.table(loom, 0, 2) + "/" + Looms.table(loom, 0, 3));
        });
        Sentences.part(2, "and guards of addresses, from, up to, and at.", () ->
            Dues.due("guards", "0-1^2 2-0^1", Looms.guards(Looms.linked("F L0 n L1 h L2 G0,1,2 G2,0,1"), 0)));
    }

    private static void kinds() {
        Sentences.part(2, "An operation is coded by 8 times its kind and its register, or another number there, and what follows it. Kinds:", () -> {
            for (int first = 0; first < 256; first++) {
                Blockloom loom = Looms.code(first, 0, 0, 0, 83);
                loom.run(0);
                int kind = first >> 3;
                int low = first & 7;
                boolean isOp = kind == 0 || kind == 11 ? low == 0 : kind == 10 ? low < 4 : kind < 16;
                Dues.due("operation " + first, isOp, loom.told('m') > 0);
            }
        });
        Sentences.part(2, "0 'n', with 0;", () -> {
            Dues.due("n", "0 h 2 0", ran(0, 40, 83));
            for (int low = 1; low < 8; low++) Dues.due("with " + low, "i 0 0", ran(low, 40, 83));
        });
        Sentences.part(2, "1 's' and a byte;", () -> {
            for (int low = 0; low < 8; low++) Dues.due("s" + low, "255 0 h 5 0", ran(8 + low, 255, 40 + low, 8 + low, 0, 40 + low, 83));
        });
        Sentences.part(2, "2, 3, 4 'a', 'b', 'm' and a byte 0 to 7;", () -> {
            for (int low = 0; low < 8; low++) {
                for (int other = 0; other < 8; other++) {
                    int sum = low == other ? 6 : 8;
                    Dues.due("a", sum + " h 5 0", ran(8 + low, 5, 8 + other, 3, 16 + low, other, 40 + low, 83));
                    Dues.due("b", (low == other ? 0 : 2) + " h 5 0", ran(8 + low, 5, 8 + other, 3, 24 + low, other, 40 + low, 83));
                    Dues.due("m", (low == other ? 9 : 15) + " h 5 0", ran(8 + low, 5, 8 + other, 3, 32 + low, other, 40 + low, 83));
                }
                for (int kind = 2; kind < 5; kind++) {
                    Dues.due("and 8", "i 0 0", ran(kind * 8 + low, 8, 83));
                    Dues.due("and 255", "i 0 0", ran(kind * 8 + low, 255, 83));
                }
            }
        });
        Sentences.part(2, "5 'p';", () -> {
            for (int low = 0; low < 8; low++) Dues.due("p" + low, "9 h 3 0", ran(8 + low, 9, 40 + low, 83));
        });
        Sentences.part(2, "12 'w' and a byte, the table;", () -> {
            for (int low = 0; low < 8; low++) {
                for (int table : new int[] {0, 3, 4, 255}) Dues.due("w by " + table, "0 h 3 0", ran(96 + low, table, 40 + low, 83));
                Blockloom loom = Looms.linked("F h h h L0 p1 h T3,0 T3,0 F n n n");
                loom.poke(0, 96 + low);
                loom.poke(1, 3);
                loom.run(0);
                Dues.due("w by 3", "0", Looms.prints(loom));
            }
        });
        Sentences.part(2, "13 't';", () -> {
            for (int low = 0; low < 8; low++) Dues.due("t" + low, "u 1 0", ran(104 + low, 83));
        });
        Sentences.part(2, "14 'd';", () -> {
            for (int low = 0; low < 8; low++) Dues.due("d" + low, "0 h 4 0", ran(8 + low, 9, 112 + low, 40 + low, 83));
        });
        Sentences.part(2, "15 'f'.", () -> {
            for (int low = 0; low < 8; low++) Dues.due("f" + low, "x 1 0", ran(8 + low, 1, 120 + low, 83));
        });
    }

    private static void jumpKinds() {
        Sentences.part(2, "6, 7 'z', 'y' and a short way;", () -> {
            for (int low = 0; low < 8; low++) {
                int print = 40 + (low + 1 & 7);
                Dues.due("z" + low, "h 1 1", ran(48 + low, 1, print, 83));
                Dues.due("no z" + low, "0 h 3 1", ran(8 + low, 1, 48 + low, 1, print, 83));
                Dues.due("y" + low, "h 2 1", ran(8 + low, 1, 56 + low, 1, print, 83));
                Dues.due("no y" + low, "0 h 2 1", ran(56 + low, 1, print, 83));
            }
        });
        Sentences.part(2, "8, 9 the same and a long way;", () -> {
            for (int low = 0; low < 8; low++) {
                int print = 40 + (low + 1 & 7);
                Dues.due("z" + low, "h 1 1", ran(64 + low, 0, 1, print, 83));
                Dues.due("no z" + low, "0 h 3 1", ran(8 + low, 1, 64 + low, 0, 1, print, 83));
                Dues.due("y" + low, "h 2 1", ran(8 + low, 1, 72 + low, 0, 1, print, 83));
                Dues.due("no y" + low, "0 h 2 1", ran(72 + low, 0, 1, print, 83));
            }
        });
        Sentences.part(2, "10 with 0 'j' and a short way, with 1 'j' and a long way, with 2 'r', with 3 'h';", () -> {
            Dues.due("short j", "h 1 1", ran(80, 1, 40, 83));
            Dues.due("long j", "h 1 1", ran(81, 0, 1, 40, 83));
            Dues.due("r", "r 1 0", ran(82, 83));
            Dues.due("h", "h 1 0", ran(83, 82));
            for (int low = 4; low < 8; low++) Dues.due("with " + low, "i 0 0", ran(80 + low, 1, 1, 83));
        });
        Sentences.part(2, "11 with 0 'c' and a long way;", () -> {
            Dues.due("c", "h 2 0", ran(88, 0, 1, 40, 83));
            for (int low = 1; low < 8; low++) Dues.due("with " + low, "i 0 0", ran(88 + low, 0, 1, 40, 83));
        });
    }

    private static void ways() {
        String words = "A way is how far the address to which it goes is behind the end of the operation, ";
        Sentences.part(2, words, () -> {
            Dues.due("0 goes on", "0 h 2 1", ran(80, 0, 40, 83));
            Dues.due("1 goes over one byte", "h 1 1", ran(80, 1, 40, 83));
            Dues.due("-2 goes to itself", "l 0 1", ran(80, 254, 83));
            Dues.due("long 0", "0 h 2 1", ran(81, 0, 0, 40, 83));
            Dues.due("long -3", "l 0 1", ran(81, 255, 253, 40, 83));
            Dues.due("call 1", "h 2 0", ran(88, 0, 1, 40, 83));
        });
        Sentences.part(2, "short as one byte, -128 to 127,", () -> {
            Dues.due("127", "0 h 2 1", ran(row(131, at(0, 80, 127, 83), at(129, 40, 83))));
            Dues.due("-128", "5 h 3 3", ran(row(131, at(0, 49, 122, 41, 83), at(124, 9, 5, 80, 128))));
            Dues.due("128 is -128", "i 0 1", ran(row(140, at(0, 80, 128), at(130, 40, 83))));
        });
        Sentences.part(2, "long as two, the higher one first.", () -> {
            Dues.due("256", "0 h 2 1", ran(row(261, at(0, 81, 1, 0, 83), at(259, 40, 83))));
            Dues.due("128", "0 h 2 1", ran(row(133, at(0, 81, 0, 128, 83), at(131, 40, 83))));
            Dues.due("255", "0 h 2 1", ran(row(260, at(0, 81, 0, 255, 83), at(258, 40, 83))));
            Dues.due("-256", "0 h 2 2", ran(row(310, at(0, 81, 1, 44, 83), at(50, 40, 83), at(303, 81, 255, 0))));
            Dues.due("call by 258", "0 h 3 0", ran(row(265, at(0, 88, 1, 2, 83), at(261, 40, 83))));
            Dues.due("32767", "i 0 1", ran(81, 127, 255, 83));
            Dues.due("-32768", "i 0 1", ran(81, 128, 0, 83));
        });
    }

    private static void noOperations() {
        Sentences.part(2, "Other bytes, or followed by others, are no operations.", () -> {
            for (int first = 128; first < 256; first++) Dues.due("byte " + first, "i 0 0", ran(first, 0, 0, 83));
            for (int first : new int[] {8, 16, 24, 32, 48, 56, 64, 72, 80, 81, 88, 96}) {
                Dues.due("followed by none " + first, "i 0 0", ran(first));
                if (first == 64 || first == 72 || first == 81 || first == 88) Dues.due("by one " + first, "i 0 0", ran(first, 0));
            }
            for (int first : new int[] {0, 40, 82, 83, 104, 112, 120}) {
                Dues.due("nothing needs to follow " + first, true, Looms.code(first).run(0) > 0 || first == 0);
            }
        });
    }

    private static void linked() {
        Sentences.part(2, "To link lays the functions of the draft one behind the other, from 0, each as one piece, all ways long.", () -> {
            Blockloom loom = Looms.linked("F L0 j0 z1,0 y2,0 c1 h F c0 r F r");
            Dues.due("bytes", "81 255 253 65 255 250 74 255 247 88 0 1 83 88 255 240 82 82", Looms.bytes(loom, 0));
            Dues.due("pieces", "0:0-13 1:13-17 2:17-18", Looms.pieces(loom, 0));
            Dues.due("begins", "0 13 17", loom.begins(0, 0) + " " + loom.begins(0, 1) + " " + loom.begins(0, 2));
            Dues.due("long ones", 3, loom.longs(0));
        });
    }

    private static void promiseSize() {
        Sentences.promise(9, "Returns how many bytes of code an image has.", () -> {
            Dues.due("one", 1, Looms.linked("F h").size(0));
            Blockloom loom = Looms.apart("F L0 p1 j0");
            loom.make(1, false);
            Dues.due("both", "4 3", loom.size(0) + " " + loom.size(1));
        });
        Sentences.promise(9, "`image`: 0 the old one, 1 the new one", () -> {
            Blockloom loom = Looms.apart("F n h");
            loom.make(1, false);
            Dues.due("old", 2, loom.size(0));
            Dues.due("new", 1, loom.size(1));
        });
        Sentences.promise(9, "Returns how many, 0 if it was not made.", () -> {
            Dues.due("none", "0 0", new Blockloom().size(0) + " " + new Blockloom().size(1));
            Dues.due("no new one", 0, Looms.linked("F h").size(1));
        });
        Sentences.promise(9, "Throws `IndexOutOfBoundsException` if there is no such image", () -> Sentences.needsImage(Blockloom::size));
    }

    private static void promiseByteAt() {
        Sentences.promise(10, "Returns a byte.", () -> Dues.due("byte", 200, Looms.linked("F s1,200 h").byteAt(0, 1)));
        Sentences.promise(10, "`image`: 0 the old one, 1 the new one", () -> {
            Blockloom loom = Looms.apart("F n h");
            loom.make(1, false);
            Dues.due("old, new", "0 83", loom.byteAt(0, 0) + " " + loom.byteAt(1, 0));
        });
        Sentences.promise(10, "`address`: its address", () -> {
            Blockloom loom = Looms.linked("F s1,200 h");
            Dues.due("least", 9, loom.byteAt(0, 0));
            Dues.due("most", 83, loom.byteAt(0, 2));
        });
        Sentences.promise(10, "Returns the byte, 0 to 255.", () -> {
            Blockloom loom = Looms.linked("F s1,255 s1,0 j0 L0 h");
            Dues.due("255", 255, loom.byteAt(0, 1));
            Dues.due("0", 0, loom.byteAt(0, 3));
            Dues.due("of a way below 0", 255, Looms.linked("F L0 j0").byteAt(0, 1));
            Blockloom large = Looms.apart("F L0 j0");
            large.make(1, false);
            Dues.due("of a short way below 0", 254, large.byteAt(1, 1));
            for (int value = 0; value < 256; value++) {
                loom.poke(1, value);
                Dues.due("poked", value, loom.byteAt(0, 1));
            }
        });
        Sentences.promise(10, "Throws `IndexOutOfBoundsException` if there is no such image", () ->
            Sentences.needsImage((loom, image) -> loom.byteAt(image, 0)));
        Sentences.promise(10, "Throws `NoSuchElementException` if that image has no such address", () -> {
            for (int far : FAR) Sentences.refused(NONE, Looms::full, loom -> loom.byteAt(0, far), loom -> loom.byteAt(1, far));
            Sentences.refused(NONE, Looms::full, loom -> loom.byteAt(0, loom.size(0)), loom -> loom.byteAt(1, loom.size(1)));
            Sentences.refused(NONE, () -> Looms.linked("F h"), loom -> loom.byteAt(1, 0), loom -> loom.byteAt(0, 1));
            Sentences.refused(NONE, Blockloom::new, loom -> loom.byteAt(0, 0));
            Sentences.needsNew(loom -> loom.byteAt(1, 0));
            Dues.due("all that there are", true, Looms.full().byteAt(0, 24) + Looms.full().byteAt(1, Looms.full().size(1) - 1) > 0);
        });
    }

    private static void promisePoke() {
        Sentences.promise(11, "Sets a byte of the old image, which is not apart then; the new one is made no more.", () -> {
            Blockloom loom = Looms.full();
            loom.poke(0, loom.byteAt(0, 0));
            Dues.refused("not apart", UNSUPPORTED, loom::blocks);
            Dues.due("no new one", 0, loom.size(1));
            Dues.refused("none to adopt", NONE, loom::adopt);
            Dues.due("apart again", 9, loom.apart());
            Blockloom bad = Looms.faulty();
            bad.poke(0, 0);
            Dues.due("a fault is gone", '-', bad.fault());
        });
        Sentences.promise(11, "`address`: its address", () -> {
            Blockloom loom = Looms.linked("F s1,200 h");
            loom.poke(0, 10);
            loom.poke(2, 82);
            Dues.due("first and last", "10 200 82", Looms.bytes(loom, 0));
        });
        Sentences.promise(11, "`value`: 0 to 255", () -> {
            Blockloom loom = Looms.linked("F s1,200 h");
            loom.poke(1, 0);
            Dues.due("0", 0, loom.byteAt(0, 1));
            loom.poke(1, 255);
            Dues.due("255", 255, loom.byteAt(0, 1));
        });
        Sentences.promise(11, "Returns the former one.", () -> {
            Blockloom loom = Looms.linked("F s1,200 h");
            Dues.due("linked", 200, loom.poke(1, 255));
            Dues.due("poked", 255, loom.poke(1, 0));
            Dues.due("0", 0, loom.poke(1, 1));
        });
        Sentences.promise(11, "Throws `NoSuchElementException` if it has no such address", () -> {
            for (int far : FAR) Sentences.refused(NONE, Looms::full, loom -> loom.poke(far, 0));
            Sentences.refused(NONE, Looms::full, loom -> loom.poke(25, 0));
            Sentences.refused(NONE, Blockloom::new, loom -> loom.poke(0, 0));
            Dues.due("it has 25", 83, Looms.full().poke(24, 0));
        });
        Sentences.promise(11, "Throws `IllegalArgumentException` if the value is out of range", () -> {
            for (int far : FAR) Sentences.refused(ARGUMENT, Looms::full, loom -> loom.poke(0, far));
            Sentences.refused(ARGUMENT, Looms::full, loom -> loom.poke(0, 256));
        });
    }

    private static void promiseBegins() {
        Sentences.promise(12, "Returns where a function begins.", () ->
            Dues.due("begin", 4, Looms.linked("F c1 h F c2 r F r").begins(0, 1)));
        Sentences.promise(12, "`image`: 0 the old one, 1 the new one", () -> {
            Blockloom loom = Looms.apart("F n h F r");
            loom.make(8, false);
            Dues.due("old, new", "2 8", loom.begins(0, 1) + " " + loom.begins(1, 1));
        });
        Sentences.promise(12, "`function`: its number", () -> {
            Blockloom loom = Looms.linked("F h F h F h F h F h F h F h F h");
            for (int function = 0; function < 8; function++) Dues.due("begin", function, loom.begins(0, function));
        });
        Sentences.promise(12, "Returns the address.", () -> {
            Blockloom loom = Looms.withoutPiece();
            Dues.due("of a function without a piece", loom.begins(0, 1), loom.begins(0, 2));
        });
        Sentences.promise(12, "Throws `IndexOutOfBoundsException` if there is no such image", () ->
            Sentences.needsImage((loom, image) -> loom.begins(image, 0)));
        Sentences.promise(12, "Throws `NoSuchElementException` if that image has no such function", () -> {
            for (int far : FAR) Sentences.refused(NONE, Looms::full, loom -> loom.begins(0, far), loom -> loom.begins(1, far));
            Sentences.refused(NONE, Looms::full, loom -> loom.begins(0, 4), loom -> loom.begins(1, 4), loom -> loom.begins(0, 8));
            Sentences.refused(NONE, () -> Looms.linked("F h"), loom -> loom.begins(1, 0), loom -> loom.begins(0, 1));
            Sentences.refused(NONE, () -> Looms.drafted("F h"), loom -> loom.begins(0, 0));
            for (int function = 0; function < 4; function++) {
                int number = function;
                Sentences.needsNew(loom -> loom.begins(1, number));
            }
        });
    }

    private static void promisePiece() {
        Sentences.promise(13, "Returns something of a piece, by addresses.", () -> {
            Blockloom loom = Looms.apart("F c1 c2 h F p1 r F d1 z1,0 p2 L0 r");
            loom.train(1);
            for (int function = 0; function < 3; function++) loom.letFlow(function);
            loom.make(1, true);
            Dues.due("new pieces", "0:0-7 1:7-9 2:9-13 2:13-16", Looms.pieces(loom, 1));
        });
        Sentences.promise(13, "`image`: 0 the old one, 1 the new one", () -> {
            Blockloom loom = Looms.apart("F n h F r");
            loom.make(8, false);
            Dues.due("old, new", "2 8", loom.piece(0, 1, 'b') + " " + loom.piece(1, 1, 'b'));
        });
        Sentences.promise(13, "`index`: its place, from 0", () -> {
            Blockloom loom = Looms.linked("F h F h F h F h F h F h F h F h");
            for (int place = 0; place < 8; place++) Dues.due("piece", place, loom.piece(0, place, 'b'));
        });
        Sentences.promise(13, "`what`: 'f' its function, 'b' where it begins, 'e' its end", () -> {
            Blockloom loom = Looms.withoutPiece();
            Dues.due("function", 1, loom.piece(0, 1, 'f'));
            Dues.due("begin", 2, loom.piece(0, 1, 'b'));
            Dues.due("end", 3, loom.piece(0, 1, 'e'));
        });
        Sentences.promise(13, "Returns that.", () -> {
            Blockloom loom = Looms.apart("F p1 h F p2 h");
            loom.count(1, 0, 5);
            loom.count(1, -1, 5);
            loom.letFlow(1);
            loom.place();
            loom.make(1, false);
            Dues.due("in the order of functions", "1:0-2 0:2-4", Looms.pieces(loom, 1));
        });
        Sentences.promise(13, "Throws `IndexOutOfBoundsException` if there is no such image", () ->
            Sentences.needsImage((loom, image) -> loom.piece(image, 0, 'f')));
        Sentences.promise(13, "Throws `NoSuchElementException` if that image has no such piece", () -> {
            for (int far : FAR) Sentences.refused(NONE, Looms::full, loom -> loom.piece(0, far, 'f'), loom -> loom.piece(1, far, 'f'));
            Sentences.refused(NONE, Looms::full, loom -> loom.piece(0, 4, 'b'), loom -> loom.piece(1, 16, 'b'));
            Sentences.refused(NONE, Looms::withoutPiece, loom -> loom.piece(0, 2, 'f'), loom -> loom.piece(1, 0, 'f'));
            Sentences.refused(NONE, () -> Looms.drafted("F h"), loom -> loom.piece(0, 0, 'f'));
            Sentences.needsNew(loom -> loom.piece(1, 0, 'f'));
        });
        Sentences.promise(13, "Throws `IllegalArgumentException` if there is no such thing", () -> {
            Sentences.needsThing("fbe", (loom, what) -> loom.piece(0, 0, what));
        });
    }

    private static void promiseTableAt() {
        Sentences.promise(14, "Returns an address of a table.", () ->
            Dues.due("address", 3, Looms.linked("F w1,0 p1 L0 h T0,0").tableAt(0, 0, 0)));
        Sentences.promise(14, "`image`: 0 the old one, 1 the new one", () -> {
            Blockloom loom = Looms.apart("F n w1,0 p1 L0 h T0,0");
            loom.make(1, false);
            Dues.due("old, new", "4 3", loom.tableAt(0, 0, 0) + " " + loom.tableAt(1, 0, 0));
        });
        Sentences.promise(14, "`table`: 0 to 3", () -> {
            Blockloom loom = Looms.linked("F L0 n L1 n L2 n L3 h T0,0 T1,1 T2,2 T3,3");
            for (int table = 0; table < 4; table++) Dues.due("table " + table, table, loom.tableAt(0, table, 0));
        });
        Sentences.promise(14, "`index`: from 0", () -> {
            Blockloom loom = Looms.linked("F L0 n L1 n L2 n L3 h L4 T2,4 T2,3 T2,2 T2,1 T2,0");
            for (int index = 0; index < 5; index++) Dues.due("index " + index, 4 - index, loom.tableAt(0, 2, index));
        });
        Sentences.promise(14, "Returns the address.", () ->
            Dues.due("at the end of the function", 2, Looms.linked("F n h L0 F h T0,0".replace("F h T0,0", "T0,0 F h")).tableAt(0, 0, 0)));
        Sentences.promise(14, "Throws `IndexOutOfBoundsException` if there is no such image", () ->
            Sentences.needsImage((loom, image) -> loom.tableAt(image, 0, 0)));
        Sentences.promise(14, "Throws `NoSuchElementException` if that image has no such table, or address", () -> {
            for (int far : FAR) {
                Sentences.refused(NONE, Looms::full, loom -> loom.tableAt(0, far, 0), loom -> loom.tableAt(1, 0, far));
                Sentences.refused(NONE, () -> Looms.linked("F L0 h T3,0 T3,0 T3,0 T3,0 T3,0"), loom -> loom.tableAt(0, 3, far));
            }
            Sentences.refused(NONE, Looms::full, loom -> loom.tableAt(0, 4, 0), loom -> loom.tableAt(0, 0, 2), loom -> loom.tableAt(1, 0, 2),
                loom -> loom.tableAt(0, 1, 0));
            Sentences.refused(NONE, () -> Looms.linked("F L0 h T0,0 T3,0 T3,0 T3,0 T3,0 T3,0"), loom -> loom.tableAt(0, 3, 5),
                loom -> loom.tableAt(0, 0, 1), loom -> loom.tableAt(1, 0, 0));
            Sentences.refused(NONE, () -> Looms.drafted("F L0 h T0,0"), loom -> loom.tableAt(0, 0, 0));
            Sentences.needsNew(loom -> loom.tableAt(1, 0, 0));
        });
    }

    private static void promiseGuardAt() {
        Sentences.promise(15, "Returns something of a guard, by their order.", () ->
            Dues.due("guards", "1-2^0 0-1^1", Looms.guards(Looms.linked("F L0 n L1 h L2 G1,2,0 G0,1,1"), 0)));
        Sentences.promise(15, "`image`: 0 the old one, 1 the new one", () -> {
            Blockloom loom = Looms.apart("F n L0 p1 L1 h G0,1,1");
            loom.make(1, false);
            Dues.due("old, new", "1 0", loom.guardAt(0, 0, 'f') + " " + loom.guardAt(1, 0, 'f'));
        });
        Sentences.promise(15, "`index`: its place, from 0", () -> {
            Blockloom loom = Looms.linked("F L0 n L1 h L2 G0,0,0 G1,1,1 G2,2,2 G0,0,0 G1,1,1 G2,2,2 G1,1,1 G2,2,2");
            int[] from = {0, 1, 2, 0, 1, 2, 1, 2};
            for (int place = 0; place < 8; place++) Dues.due("guard " + place, from[place], loom.guardAt(0, place, 'f'));
        });
        Sentences.promise(15, "`what`: 'f' from, 'u' up to, 'a' at", () -> {
            Blockloom loom = Looms.linked("F L0 n L1 n L2 h G0,1,2");
            Dues.due("from, up to, at", "0 1 2", loom.guardAt(0, 0, 'f') + " " + loom.guardAt(0, 0, 'u') + " " + loom.guardAt(0, 0, 'a'));
        });
        Sentences.promise(15, "Returns the address.", () ->
            Dues.due("the end of the code", 2, Looms.linked("F L0 n h L1 G0,1,0").guardAt(0, 0, 'u')));
        Sentences.promise(15, "Throws `IndexOutOfBoundsException` if there is no such image", () ->
            Sentences.needsImage((loom, image) -> loom.guardAt(image, 0, 'f')));
        Sentences.promise(15, "Throws `NoSuchElementException` if that image has no such guard", () -> {
            for (int far : FAR) Sentences.refused(NONE, Looms::full, loom -> loom.guardAt(0, far, 'f'), loom -> loom.guardAt(1, far, 'f'));
            Sentences.refused(NONE, Looms::full, loom -> loom.guardAt(0, 1, 'f'), loom -> loom.guardAt(1, 1, 'f'));
            Sentences.refused(NONE, () -> Looms.linked("F L0 h L1 G0,1,0"), loom -> loom.guardAt(1, 0, 'f'), loom -> loom.guardAt(0, 1, 'a'));
            Sentences.refused(NONE, () -> Looms.drafted("F L0 h L1 G0,1,0"), loom -> loom.guardAt(0, 0, 'f'));
            Sentences.needsNew(loom -> loom.guardAt(1, 0, 'f'));
        });
        Sentences.promise(15, "Throws `IllegalArgumentException` if there is no such thing", () -> {
            Sentences.needsThing("fua", (loom, what) -> loom.guardAt(0, 0, what));
        });
    }

    private static void promiseAdopt() {
        Sentences.promise(16, "Lets the new image become the old one, which is not apart then; the new one is made no more.", () -> {
            Blockloom loom = Looms.full();
            String made = Looms.bytes(loom, 1) + Looms.pieces(loom, 1) + Looms.guards(loom, 1) + Looms.table(loom, 1, 0) + loom.begins(1, 3);
            loom.adopt();
            String old = Looms.bytes(loom, 0) + Looms.pieces(loom, 0) + Looms.guards(loom, 0) + Looms.table(loom, 0, 0) + loom.begins(0, 3);
            Dues.due("old one", made, old);
            Dues.refused("not apart", UNSUPPORTED, loom::blocks);
            Dues.due("no fault", '-', loom.fault());
            Dues.due("no new one", 0, loom.size(1));
            Dues.refused("none to run", NONE, () -> loom.run(1));
            Dues.refused("none to adopt", NONE, loom::adopt);
            Dues.due("apart", true, loom.apart() > 0);
            loom.make(1, false);
            Dues.due("made anew", true, loom.isLike());
        });
        Sentences.promise(16, "Returns how many bytes it has.", () -> {
            Dues.due("bytes", Looms.full().size(1), Looms.full().adopt());
            Blockloom loom = Looms.apart("F n n h");
            loom.make(1, false);
            Dues.due("one", 1, loom.adopt());
        });
        Sentences.promise(16, "Throws `NoSuchElementException` if there is none", () -> {
            Sentences.needsNew(Blockloom::adopt);
        });
    }
}
