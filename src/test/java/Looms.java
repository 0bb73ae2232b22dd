/** Writes drafts from texts, and tells about objects as texts. */
final class Looms {
    private Looms() {
    }

    /**
     * Drafts a text of words: F begins a function; Lx lets a label stand; Tx,y adds the label y to the table x; Gx,y,z
     * adds a guard; others are a sign, its register, if it has one, and its number, if it has one.
     */
    static Blockloom drafted(String text) {
        Blockloom loom = new Blockloom();
        draft(loom, text);
        return loom;
    }

    static void draft(Blockloom loom, String text) {
        for (String word : text.trim().split("\\s+")) draftWord(loom, word);
    }

    private static void draftWord(Blockloom loom, String word) {
        char sign = word.charAt(0);
        String[] parts = word.length() == 1 ? new String[0] : word.substring(1).split(",");
        int[] numbers = new int[3];
        for (int index = 0; index < parts.length; index++) numbers[index] = Integer.parseInt(parts[index]);
        if (sign == 'F') loom.function();
        else if (sign == 'L') loom.label(numbers[0]);
        else if (sign == 'T') loom.table(numbers[0], numbers[1]);
        else if (sign == 'G') loom.guard(numbers[0], numbers[1], numbers[2]);
        else if (sign == 'j' || sign == 'c') loom.op(sign, 0, numbers[0]);
        else loom.op(sign, numbers[0], numbers[1]);
    }

    static Blockloom linked(String text) {
        Blockloom loom = drafted(text);
        loom.link();
        return loom;
    }

    static Blockloom apart(String text) {
        Blockloom loom = linked(text);
        int blocks = loom.apart();
        if (blocks < 0) throw new AssertionError("fault " + loom.fault() + " at " + loom.faultAt() + ": " + text);
        return loom;
    }

    static String bytes(Blockloom loom, int image) {
        StringBuilder text = new StringBuilder();
        for (int address = 0; address < loom.size(image); address++) {
            if (address > 0) text.append(' ');
            text.append(loom.byteAt(image, address));
        }
        return text.toString();
    }

    static String prints(Blockloom loom) {
        StringBuilder text = new StringBuilder();
        for (int index = 0; index < loom.prints(); index++) {
            if (index > 0) text.append(' ');
            text.append(loom.printAt(index));
        }
        return text.toString();
    }

    /** Runs an image: its prints, end, works, jumps, those taken, misses and depth. */
    static String ran(Blockloom loom, int image) {
        int works = loom.run(image);
        return prints(loom) + " | " + loom.end() + " " + works + " " + loom.told('j') + " " + loom.told('t') + " "
            + loom.told('m') + " " + loom.told('d');
    }

    /** All blocks that are there: number, begin, operations, end, slots, and guard behind '^'. */
    static String blocks(Blockloom loom) {
        StringBuilder text = new StringBuilder();
        for (int block = 0; block < loom.blocks(); block++) {
            if (loom.isThere(block)) {
                if (text.length() > 0) text.append("; ");
                text.append(block(loom, block));
            }
        }
        return text.toString();
    }

    static String block(Blockloom loom, int block) {
        StringBuilder text = new StringBuilder();
        text.append(block).append('@').append(loom.block(block, 'b')).append(' ');
        for (int index = 0; index < loom.block(block, 'o'); index++) text.append(loom.opAt(block, index));
        text.append(loom.endOf(block) == 'g' ? ">" : ">" + loom.endOf(block));
        if (loom.block(block, 'r') >= 0) text.append(loom.block(block, 'r'));
        for (int slot = 0; slot < loom.block(block, 's'); slot++) text.append(' ').append(loom.successor(block, slot));
        if (loom.block(block, 'g') >= 0) text.append(" ^").append(loom.block(block, 'g'));
        return text.toString();
    }

    static boolean hasWayIn(Blockloom loom, int block) {
        return Dues.of(() -> loom.counted(block, -1)) instanceof Integer;
    }

    /** By blocks that are there: the way in ahead of '/', if there is one, and the slots. */
    static String counts(Blockloom loom, boolean isFlow) {
        StringBuilder text = new StringBuilder();
        for (int block = 0; block < loom.blocks(); block++) {
            if (!loom.isThere(block)) continue;
            if (text.length() > 0) text.append("; ");
            if (hasWayIn(loom, block)) text.append(isFlow ? loom.flow(block, -1) : loom.counted(block, -1)).append('/');
            for (int slot = 0; slot < loom.block(block, 's'); slot++) {
                if (slot > 0) text.append(' ');
                text.append(isFlow ? loom.flow(block, slot) : loom.counted(block, slot));
            }
        }
        return text.toString();
    }

    static String order(Blockloom loom, int function) {
        StringBuilder text = new StringBuilder();
        for (int index = 0; index < 1000; index++) {
            int place = index;
            Object block = Dues.of(() -> loom.orderAt(function, place));
            if (block.equals("throws NoSuchElementException")) break;
            if (index > 0) text.append(' ');
            text.append(block);
        }
        return text.toString();
    }

    static String placed(Blockloom loom) {
        StringBuilder text = new StringBuilder();
        for (int index = 0; index < 9; index++) {
            int place = index;
            Object function = Dues.of(() -> loom.placed(place));
            if (function.equals("throws NoSuchElementException")) break;
            if (index > 0) text.append(' ');
            text.append(function);
        }
        return text.toString();
    }

    static String pieces(Blockloom loom, int image) {
        StringBuilder text = new StringBuilder();
        for (int index = 0; index < 17; index++) {
            int place = index;
            if (Dues.of(() -> loom.piece(image, place, 'f')).equals("throws NoSuchElementException")) break;
            if (index > 0) text.append(' ');
            text.append(loom.piece(image, index, 'f')).append(':').append(loom.piece(image, index, 'b')).append('-')
                .append(loom.piece(image, index, 'e'));
        }
        return text.toString();
    }

    static String guards(Blockloom loom, int image) {
        StringBuilder text = new StringBuilder();
        for (int index = 0; index < 25; index++) {
            int place = index;
            if (Dues.of(() -> loom.guardAt(image, place, 'f')).equals("throws NoSuchElementException")) break;
            if (index > 0) text.append(' ');
            text.append(loom.guardAt(image, index, 'f')).append('-').append(loom.guardAt(image, index, 'u'))
                .append('^').append(loom.guardAt(image, index, 'a'));
        }
        return text.toString();
    }

    static String table(Blockloom loom, int image, int table) {
        StringBuilder text = new StringBuilder();
        for (int index = 0; index < 6; index++) {
            int place = index;
            Object address = Dues.of(() -> loom.tableAt(image, table, place));
            if (address.equals("throws NoSuchElementException")) break;
            if (index > 0) text.append(' ');
            text.append(address);
        }
        return text.toString();
    }
}
