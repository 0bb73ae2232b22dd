/** Promises 1 to 8: a new object, and the draft. */
final class DraftTest {
    private static final Class<IllegalStateException> STATE = IllegalStateException.class;
    private static final Class<IllegalArgumentException> ARGUMENT = IllegalArgumentException.class;
    private static final Class<UnsupportedOperationException> UNSUPPORTED = UnsupportedOperationException.class;
    private static final String ALL = "F s1,5 a1,2 b3,4 m5,6 p7 d1 L0 z1,0 y2,1 j1 w3,0 c1 f4 t5 r h n L1 F r";

    public static void main(String[] args) {
        newObject();
        functions();
        operations();
        operationRanges();
        labels();
        tables();
        guards();
        wiping();
        linking();
        refusedLinks();
        linkingAnew();
        Dues.close("DraftTest");
    }

    private static void newObject() {
        Blockloom loom = new Blockloom();
        Dues.due("new: old size", 0, loom.size(0));
        Dues.due("new: new size", 0, loom.size(1));
        Dues.due("new: numbers to read", 0, loom.clear());
        Dues.due("new: draft", 0, loom.wipe());
        Dues.due("new: end", '-', loom.end());
        Dues.due("new: fault", '-', loom.fault());
        Dues.refused("new: run", java.util.NoSuchElementException.class, () -> loom.run(0));
        Dues.refused("new: link", UNSUPPORTED, loom::link);
    }

    private static void functions() {
        Blockloom loom = new Blockloom();
        for (int function = 0; function < 8; function++) Dues.due("function", function, loom.function());
        Dues.refused("ninth function", STATE, loom::function);
        loom.op('h', 0, 0);
        Dues.due("operations are of the last function", 2, loom.op('h', 0, 0));
    }

    private static void operations() {
        Blockloom loom = new Blockloom();
        Dues.refused("op without function", STATE, () -> loom.op('h', 0, 0));
        Dues.refused("no sign ahead of no function", ARGUMENT, () -> loom.op('q', 0, 0));
        loom.function();
        for (int many = 1; many <= 40; many++) Dues.due("op", many, loom.op('n', -5, 1000));
        Dues.refused("op 41", STATE, () -> loom.op('h', 0, 0));
        Dues.refused("op 41 out of range", ARGUMENT, () -> loom.op('p', 8, 0));
        Dues.due("label behind all", 40, loom.label(0));
        loom.function();
        Dues.due("op of the next function", 1, loom.op('h', 0, 0));
    }

    private static void operationRanges() {
        Blockloom loom = new Blockloom();
        loom.function();
        String[] highest = {"s255", "a7", "b7", "m7", "z9", "y9", "j9", "w3", "c7"};
        for (String sign : highest) {
            char letter = sign.charAt(0);
            int most = Integer.parseInt(sign.substring(1));
            Dues.refused(letter + " too much", ARGUMENT, () -> loom.op(letter, 0, most + 1));
            Dues.refused(letter + " too little", ARGUMENT, () -> loom.op(letter, 0, -1));
            loom.op(letter, 0, 0);
            Dues.due(letter + " least, most", true, Dues.of(() -> loom.op(letter, 0, most)) instanceof Integer);
        }
        for (char letter : "sabmpdzywft".toCharArray()) {
            Dues.refused(letter + " register 8", ARGUMENT, () -> loom.op(letter, 8, 0));
            Dues.refused(letter + " register -1", ARGUMENT, () -> loom.op(letter, -1, 0));
            Dues.due(letter + " register 7", true, Dues.of(() -> loom.op(letter, 7, 0)) instanceof Integer);
        }
        for (char letter : "jcrhn".toCharArray()) {
            Dues.due(letter + " has no register", true, Dues.of(() -> loom.op(letter, 99, 0)) instanceof Integer);
        }
        loom.function();
        for (char letter : "pdftrhn".toCharArray()) {
            Dues.due(letter + " has no number", true, Dues.of(() -> loom.op(letter, 0, -99)) instanceof Integer);
        }
        for (char letter : "ceijkloquvxgSZ \0-0".toCharArray()) {
            if (letter != 'c' && letter != 'j') Dues.refused("sign " + letter, ARGUMENT, () -> loom.op(letter, 0, 0));
        }
    }

    private static void labels() {
        Blockloom loom = new Blockloom();
        Dues.refused("label without function", STATE, () -> loom.label(0));
        Dues.refused("label out of range ahead", ARGUMENT, () -> loom.label(10));
        loom.function();
        Dues.due("label ahead", 0, loom.label(9));
        loom.op('n', 0, 0);
        Dues.due("label behind one", 1, loom.label(0));
        Dues.refused("label again", STATE, () -> loom.label(9));
        Dues.refused("label -1", ARGUMENT, () -> loom.label(-1));
        loom.function();
        Dues.due("label of another function", 0, loom.label(9));
    }

    private static void tables() {
        Blockloom loom = new Blockloom();
        Dues.refused("table without function", STATE, () -> loom.table(0, 0));
        Dues.refused("table 4", ARGUMENT, () -> loom.table(4, 0));
        loom.function();
        Dues.refused("table -1", ARGUMENT, () -> loom.table(-1, 0));
        Dues.refused("table of label 10", ARGUMENT, () -> loom.table(0, 10));
        Dues.refused("table of label -1", ARGUMENT, () -> loom.table(0, -1));
        for (int many = 1; many <= 5; many++) Dues.due("table", many, loom.table(3, 9));
        Dues.refused("table has 5", STATE, () -> loom.table(3, 0));
        Dues.due("other table", 1, loom.table(0, 0));
        loom.function();
        Dues.refused("table of another function", STATE, () -> loom.table(0, 0));
        Dues.due("third table", 1, loom.table(1, 0));
    }

    private static void guards() {
        Blockloom loom = new Blockloom();
        Dues.refused("guard without function", STATE, () -> loom.guard(0, 1, 2));
        Dues.refused("guard from 10", ARGUMENT, () -> loom.guard(10, 0, 0));
        loom.function();
        Dues.refused("guard to 10", ARGUMENT, () -> loom.guard(0, 10, 0));
        Dues.refused("guard at -1", ARGUMENT, () -> loom.guard(0, 0, -1));
        for (int many = 1; many <= 4; many++) Dues.due("guard", many, loom.guard(0, 1, 2));
        loom.function();
        for (int many = 5; many <= 8; many++) Dues.due("guard of another", many, loom.guard(9, 9, 9));
        Dues.refused("ninth guard", STATE, () -> loom.guard(0, 1, 2));
        Dues.refused("ninth guard out of range", ARGUMENT, () -> loom.guard(0, 1, 12));
    }

    private static void wiping() {
        Blockloom loom = Looms.linked("F L0 s1,1 L1 p1 h L2 h G0,1,2 T0,0 F r");
        Dues.due("wipe", 2, loom.wipe());
        Dues.due("images stay", 6, loom.size(0));
        Dues.refused("nothing to link", UNSUPPORTED, loom::link);
        Dues.refused("no function", STATE, () -> loom.op('h', 0, 0));
        Dues.due("wipe again", 0, loom.wipe());
        loom.function();
        Dues.due("label anew", 0, loom.label(0));
        Dues.due("table anew", 1, loom.table(0, 0));
        Dues.due("guard anew", 1, loom.guard(0, 0, 0));
        Dues.due("op anew", 1, loom.op('h', 0, 0));
        Dues.due("link anew", 1, loom.link());
        Dues.due("one function", 1, loom.wipe());
    }

    private static void linking() {
        Blockloom loom = Looms.drafted(ALL);
        Dues.due("link", 30, loom.link());
        Dues.due("bytes", "9 5 17 2 27 4 37 6 47 113 65 255 253 74 0 13 81 0 10 99 0 88 0 5 124 109 82 83 0 82",
            Looms.bytes(loom, 0));
        Dues.due("pieces", "0:0-29 1:29-30", Looms.pieces(loom, 0));
        Dues.due("begin of 1", 29, loom.begins(0, 1));
        loom = Looms.linked("F L3 w1,2 L4 h L5 p1 h L6 T2,5 T2,3 T2,6 G3,5,4 G4,6,3");
        Dues.due("table", "3 0 5", Looms.table(loom, 0, 2));
        Dues.due("guards", "0-3^2 2-5^0", Looms.guards(loom, 0));
        Dues.due("draft stays", 5, loom.link());
    }

    private static void refusedLinks() {
        String[] refused = {"F", "F h F", "F j0", "F z1,0 h", "F y1,3 L0 h", "F c1 h", "F h T0,0", "F h L0 T0,0 T0,1",
            "F L0 L1 h G0,1,2", "F L0 L1 h G0,2,1", "F L0 L1 h G2,0,1", "F L0 h F j0 h"};
        for (String text : refused) {
            Dues.refused("link of " + text, UNSUPPORTED, () -> Looms.drafted(text).link());
        }
        Dues.due("a switch by a table without labels is linked", 3, Looms.drafted("F w0,0 h").link());
        Blockloom loom = Looms.linked("F h");
        loom.function();
        Dues.refused("an empty function", UNSUPPORTED, loom::link);
        Dues.due("the image stays", 1, loom.size(0));
        loom.op('c', 0, 7);
        Dues.refused("a call of none", UNSUPPORTED, loom::link);
        Dues.due("most of all", 960, () -> {
            Blockloom large = new Blockloom();
            for (int function = 0; function < 8; function++) {
                large.function();
                large.label(0);
                for (int many = 0; many < 40; many++) large.op('j', 0, 0);
            }
            return large.link();
        });
    }

    private static void linkingAnew() {
        Blockloom loom = Looms.apart("F s1,1 p1 h");
        loom.make(1, false);
        loom.op('h', 0, 0);
        Dues.due("link anew", 5, loom.link());
        Dues.due("no new image", 0, loom.size(1));
        Dues.refused("not apart", UNSUPPORTED, loom::blocks);
    }
}
