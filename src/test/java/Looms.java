/** Writes drafts from texts, and tells about objects as texts. */
final class Looms {
    private Looms() {
    }

    /**
     * Drafts a text of words: F begins a function; Lx lets a label stand; Tx,y adds the label y to the table x; Gx,y,z
     * adds a guard; others are a sign, its register, if it has one, and its number, if it has one.
     */
    static Blockloom drafted(String text) {
        Blockloom loom = new Blockloom();
        draft(loom, text);
        return loom;
    }

    static void draft(Blockloom loom, String text) {
        for (String word : text.trim().split("\\s+")) draftWord(loom, word);
    }

    private static void draftWord(Blockloom loom, String word) {
        char sign = word.charAt(0);
        String[] parts = word.length() == 1 ? new String[0] : word.substring(1).split(",");
        int[] numbers = new int[3];
        for (int index = 0; index < parts.length; index++) numbers[index] = Integer.parseInt(parts[index]);
        if (sign == 'F') loom.function();
        else if (sign == 'L') loom.label(numbers[0]);
        else if (sign == 'T') loom.table(numbers[0], numbers[1]);
        else if (sign == 'G') loom.guard(numbers[0], numbers[1], numbers[2]);
        else if (sign == 'j' || sign == 'c') loom.op(sign, 0, numbers[0]);
        else loom.op(sign, numbers[0], numbers[1]);
    }

    static Blockloom linked(String text) {
        Blockloom loom = drafted(text);
        loom.link();
        return loom;
    }

    static Blockloom apart(String text) {
        Blockloom loom = linked(text);
        int blocks = loom.apart();
        if (blocks < 0) throw new AssertionError("fault " + loom.fault() + " at " + loom.faultAt() + ": " + text);
        return loom;
    }

    static String bytes(Blockloom loom, int image) {
        StringBuilder text = new StringBuilder();
        for (int address = 0; address < loom.size(image); address++) {
            if (address > 0) text.append(' ');
            text.append(loom.byteAt(image, address));
        }
        return text.toString();
    }

    static String prints(Blockloom loom) {
        StringBuilder text = new StringBuilder();
        for (int index = 0; index < loom.prints(); index++) {
            if (index > 0) text.append(' ');
            text.append(loom.printAt(index));
        }
        return text.toString();
    }

    /** Runs an image: its prints, end, works, jumps, those taken, misses and depth. */
    static String ran(Blockloom loom, int image) {
        int works = loom.run(image);
        return prints(loom) + " | " + loom.end() + " " + works + " " + loom.told('j') + " " + loom.told('t') + " "
            + loom.told('m') + " " + loom.told('d');
    }

    /** All blocks that are there: number, begin, operations, end, slots, and guard behind '^'. */
    static String blocks(Blockloom loom) {
        StringBuilder text = new StringBuilder();
        for (int block = 0; block < loom.blocks(); block++) {
            if (loom.isThere(block)) {
                if (text.length() > 0) text.append("; ");
                text.append(block(loom, block));
            }
        }
        return text.toString();
    }

    static String block(Blockloom loom, int block) {
        StringBuilder text = new StringBuilder();
        text.append(block).append('@').append(loom.block(block, 'b')).append(' ');
        for (int index = 0; index < loom.block(block, 'o'); index++) text.append(loom.opAt(block, index));
        text.append(loom.endOf(block) == 'g' ? ">" : ">" + loom.endOf(block));
        if (loom.block(block, 'r') >= 0) text.append(loom.block(block, 'r'));
        for (int slot = 0; slot < loom.block(block, 's'); slot++) text.append(' ').append(loom.successor(block, slot));
        if (loom.block(block, 'g') >= 0) text.append(" ^").append(loom.block(block, 'g'));
        return text.toString();
    }

    static boolean hasWayIn(Blockloom loom, int block) {
        return Dues.of(() -> loom.counted(block, -1)) instanceof Integer;
    }

    /** By blocks that are there: the way in ahead of '/', if there is one, and the slots. */
    static String counts(Blockloom loom, boolean isFlow) {
        StringBuilder text = new StringBuilder();
        for (int block = 0; block < loom.blocks(); block++) {
            if (!loom.isThere(block)) continue;
            if (text.length() > 0) text.append("; ");
            if (hasWayIn(loom, block)) text.append(isFlow ? loom.flow(block, -1) : loom.counted(block, -1)).append('/');
            for (int slot = 0; slot < loom.block(block, 's'); slot++) {
                if (slot > 0) text.append(' ');
                text.append(isFlow ? loom.flow(block, slot) : loom.counted(block, slot));
            }
        }
        return text.toString();
    }

    static String order(Blockloom loom, int function) {
        StringBuilder text = new StringBuilder();
        for (int index = 0; index < 1000; index++) {
            int place = index;
            Object block = Dues.of(() -> loom.orderAt(function, place));
            if (block.equals("throws NoSuchElementException")) break;
            if (index > 0) text.append(' ');
            text.append(block);
        }
        return text.toString();
    }

    static String placed(Blockloom loom) {
        StringBuilder text = new StringBuilder();
        for (int index = 0; index < 9; index++) {
            int place = index;
            Object function = Dues.of(() -> loom.placed(place));
            if (function.equals("throws NoSuchElementException")) break;
            if (index > 0) text.append(' ');
            text.append(function);
        }
        return text.toString();
    }

    static String pieces(Blockloom loom, int image) {
        StringBuilder text = new StringBuilder();
        for (int index = 0; index < 17; index++) {
            int place = index;
            if (Dues.of(() -> loom.piece(image, place, 'f')).equals("throws NoSuchElementException")) break;
            if (index > 0) text.append(' ');
            text.append(loom.piece(image, index, 'f')).append(':').append(loom.piece(image, index, 'b')).append('-')
                .append(loom.piece(image, index, 'e'));
        }
        return text.toString();
    }

    static String guards(Blockloom loom, int image) {
        StringBuilder text = new StringBuilder();
        for (int index = 0; index < 25; index++) {
            int place = index;
            if (Dues.of(() -> loom.guardAt(image, place, 'f')).equals("throws NoSuchElementException")) break;
            if (index > 0) text.append(' ');
            text.append(loom.guardAt(image, index, 'f')).append('-').append(loom.guardAt(image, index, 'u'))
                .append('^').append(loom.guardAt(image, index, 'a'));
        }
        return text.toString();
    }

    static String table(Blockloom loom, int image, int table) {
        StringBuilder text = new StringBuilder();
        for (int index = 0; index < 6; index++) {
            int place = index;
            Object address = Dues.of(() -> loom.tableAt(image, table, place));
            if (address.equals("throws NoSuchElementException")) break;
            if (index > 0) text.append(' ');
            text.append(address);
        }
        return text.toString();
    }

    /** An old image of these bytes, in pieces of 40. */
    static Blockloom code(int... bytes) {
        Blockloom loom = new Blockloom();
        for (int address = 0; address < bytes.length; address++) {
            if (address % 40 == 0) loom.function();
            loom.op('n', 0, 0);
        }
        loom.link();
        for (int address = 0; address < bytes.length; address++) loom.poke(address, bytes[address]);
        return loom;
    }

    /** An object for which something of all was done. */
    static Blockloom full() {
        Blockloom loom = apart("F d1 z1,0 L1 p1 c1 f2 w1,0 h L0 p2 j1 T0,0 T0,1 F L0 t1 L1 p0 r G0,1,1 F p3 r F p3 r p4 h");
        loom.feed(2);
        loom.feed(7);
        loom.drop();
        loom.fold();
        loom.train(1);
        for (int function = 0; function < 3; function++) {
            loom.letFlow(function);
            loom.order(function);
        }
        loom.place();
        loom.make(4, true);
        loom.run(1);
        return loom;
    }

    /** The same with the new image adopted. */
    static Blockloom adopted() {
        Blockloom loom = full();
        loom.adopt();
        return loom;
    }

    /** The same linked anew. */
    static Blockloom linkedAnew() {
        Blockloom loom = full();
        loom.link();
        return loom;
    }

    /** The same with a byte set to what it was. */
    static Blockloom poked() {
        Blockloom loom = full();
        loom.poke(0, loom.byteAt(0, 0));
        return loom;
    }

    /** An object whose old image has a fault, with a run behind it. */
    static Blockloom faulty() {
        Blockloom loom = linked("F d1 p1 n h F r");
        loom.feed(3);
        loom.run(0);
        loom.poke(2, 255);
        loom.apart();
        return loom;
    }

    /** Three functions and four blocks, of which the block 1 was dropped, and the function 2 with the block 3 folded. */
    static Blockloom takenAway() {
        Blockloom loom = apart("F p1 h p2 h F r F r");
        loom.drop();
        loom.fold();
        return loom;
    }

    /** The same adopted and taken apart, so that the function 2 has no piece. */
    static Blockloom withoutPiece() {
        Blockloom loom = takenAway();
        loom.make(1, false);
        loom.adopt();
        loom.apart();
        return loom;
    }

    private static void tell(StringBuilder text, Dues.Call... calls) {
        for (Dues.Call call : calls) text.append(Dues.of(call)).append(' ');
        text.append('\n');
    }

    /** All that can be asked of an object, and then, by altering it, what it holds besides. */
    static String all(Blockloom loom) {
        StringBuilder text = new StringBuilder();
        tell(text, loom::checksum, loom::isSound, loom::end, loom::fault, loom::faultAt, loom::isLike, loom::meanBytes);
        tell(text, () -> prints(loom), () -> loom.told('j'), () -> loom.told('t'), () -> loom.told('m'), () -> loom.told('d'));
        for (int image = 0; image < 2; image++) tellImage(text, loom, image);
        if (of(loom::blocks)) tellApart(text, loom);
        tell(text, () -> ran(loom, 0), () -> ran(loom, 1));
        tellDraft(text, loom);
        tell(text, loom::link, loom::clear, loom::wipe);
        tellImage(text, loom, 0);
        return text.toString();
    }

    private static boolean of(Dues.Call call) {
        return Dues.of(call) instanceof Integer;
    }

    private static void tellImage(StringBuilder text, Blockloom loom, int image) {
        tell(text, () -> bytes(loom, image), () -> pieces(loom, image), () -> guards(loom, image), () -> loom.longs(image));
        for (int table = 0; table < 4; table++) text.append(table(loom, image, table)).append('/');
        for (int each = 0; each < 8; each++) {
            int function = each;
            tell(text, () -> loom.begins(image, function));
        }
    }

    private static void tellApart(StringBuilder text, Blockloom loom) {
        tell(text, () -> blocks(loom), () -> counts(loom, false), () -> counts(loom, true), () -> placed(loom), loom::hotShare);
        for (int each = 0; each < 8; each++) {
            int function = each;
            tell(text, () -> loom.same(function), () -> order(loom, function), () -> loom.gain(function));
        }
    }

    /** What the draft has can be seen by what it takes. */
    private static void tellDraft(StringBuilder text, Blockloom loom) {
        tell(text, loom::link, () -> bytes(loom, 0), () -> guards(loom, 0));
        for (int table = 0; table < 4; table++) {
            int number = table;
            tell(text, () -> table(loom, 0, number), () -> loom.table(number, 0));
        }
        for (int label = 0; label < 10; label++) {
            int number = label;
            tell(text, () -> loom.label(number));
        }
        tell(text, () -> loom.guard(0, 0, 0), () -> loom.op('h', 0, 0), loom::function, () -> loom.op('h', 0, 0));
    }

    /** So many like operations. */
    static String ops(String op, int many) {
        return (" " + op).repeat(many);
    }

    /** Operations that do so many works, 949 or more, with the registers 2 to 5 alone. */
    static String works(int many) {
        boolean isMore = many >= 994;
        StringBuilder text = new StringBuilder(isMore ? "s2,1 s3,30 s4,33" : "s2,1 s3,27 s4,35");
        text.append(" m3,4 L9 b3,2 y3,9");
        for (int done = isMore ? 994 : 949; done < many; done++) text.append(" a5,5");
        return text.toString();
    }
}
