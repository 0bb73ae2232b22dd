/** What an object was used for ahead changes no answers: other images, and up to 512 calls. */
final class UseTest {
    private static final String[] FIXED = {"F h", "F p1 L0 p2 h L1 G0,1,0 T0,0", "F c1 h F L0 t1 L1 r G0,1,1", "F w1,0 L0 r T0,0 F c0 r"};

    public static void main(String[] args) {
        anew();
        manyCalls();
        mostBlocks();
        Dues.close("UseTest");
    }

    /** An object that was used for another draft tells all as a new one does. */
    private static void anew() {
        Drafts drafts = new Drafts(512L);
        for (int round = 0; round < 300; round++) {
            String former = round % 3 == 0 ? largest(round % 2 == 0 ? "j0" : "z1,0") : drafts.draw(8, 40);
            String text = round < 12 ? FIXED[round % FIXED.length] : drafts.draw(1 + round % 8, 1 + round % 25);
            Blockloom used = Looms.drafted(former);
            used.link();
            if (round % 3 == 0) for (int address = 0; address < used.size(0); address++) used.poke(address, 82);
            useAll(used, round % 4);
            used.wipe();
            used.clear();
            Looms.draft(used, text);
            Blockloom fresh = Looms.drafted(text);
            for (Blockloom loom : new Blockloom[] {used, fresh}) {
                loom.link();
                useAll(loom, round % 4);
                loom.run(0);
            }
            Dues.due("used for " + former + ", then for " + text, Looms.all(fresh), Looms.all(used));
        }
    }

    private static String largest(String op) {
        StringBuilder text = new StringBuilder();
        for (int function = 0; function < 8; function++) {
            text.append(" F L0");
            for (int many = 0; many < 40; many++) text.append(' ').append(op);
        }
        return text.toString();
    }

    private static void useAll(Blockloom loom, int way) {
        if (loom.apart() < 0) return;
        loom.feed(way);
        if (way == 1) loom.drop();
        if (way == 2) loom.thread();
        if (way > 1) loom.fold();
        loom.train(1 + way);
        loom.train(1);
        for (int each = 0; each < 8; each++) {
            int function = each;
            Dues.of(() -> loom.letFlow(function));
            Dues.of(() -> loom.order(function));
        }
        loom.place();
        boolean isMade = Dues.of(() -> loom.make(1 << way, way % 2 == 0)) instanceof Integer;
        loom.isSound();
        if (isMade && way == 3) {
            loom.adopt();
            loom.apart();
            loom.train(2);
        }
    }

    /** Some 500 calls of one kind each, with the same answers. */
    private static void manyCalls() {
        Sentences.Ask[] asks = {Blockloom::thread, Blockloom::drop, Blockloom::fold, Blockloom::place, Blockloom::apart, Blockloom::link,
            x -> x.letFlow(0), x -> x.order(0), x -> x.make(4, true), Blockloom::isSound, Blockloom::isLike, x -> x.run(0), x -> x.run(1),
            Blockloom::checksum, Blockloom::hotShare, x -> x.longs(0), x -> x.weight(0), x -> x.poke(0, 41), x -> x.gain(1)};
        String[] texts = {"F p1 L0 d1 y1,0 c1 L1 z2,2 h L2 L3 p0 h p5 h G0,1,2 F j0 L0 c2 j1 L1 f1 r F p1 r F p1 r p2 h", dense()};
        for (String text : texts) {
            for (int index = 0; index < asks.length; index++) {
                Blockloom loom = used(text);
                Sentences.Ask ask = asks[index];
                Dues.of(() -> ask.of(loom));
                Object answer = Dues.of(() -> ask.of(loom));
                long sum = loom.checksum();
                boolean isSame = true;
                for (int many = 0; many < 450; many++) isSame &= answer.equals(Dues.of(() -> ask.of(loom))) && sum == loom.checksum();
                Dues.due("call " + index + " many times answers " + answer, true, isSame);
                Blockloom other = used(text);
                Dues.of(() -> ask.of(other));
                Dues.of(() -> ask.of(other));
                Dues.due("all behind call " + index, Looms.all(other), Looms.all(loom));
            }
        }
    }

    private static String dense() {
        StringBuilder text = new StringBuilder("F");
        for (int op = 0; op < 38; op++) {
            if (op % 4 == 0) text.append(" L").append(op / 4);
            text.append(op % 3 == 0 ? " p1" : op % 3 == 1 ? " z1," + op % 10 : " y2," + op * 7 % 10);
        }
        return text + " t1 h F r";
    }

    private static Blockloom used(String text) {
        Blockloom loom = Looms.apart(text);
        loom.feed(3);
        loom.train(1);
        for (int block = 0; block < loom.blocks(); block++) loom.count(block, 0, block * 37 % 101);
        loom.letFlow(0);
        loom.letFlow(1);
        loom.order(0);
        loom.make(1, true);
        return loom;
    }

    /** The image of most blocks: each of 960 bytes is one. */
    private static void mostBlocks() {
        Blockloom loom = Looms.linked(largest("j0"));
        for (int address = 0; address < 960; address++) loom.poke(address, 83);
        Dues.due("blocks", 960, loom.apart());
        loom.train(1);
        for (int function = 0; function < 8; function++) {
            loom.count(120 * function, 0, 9);
            loom.count(120 * function, -1, 9);
            Dues.due("it flows", 0, loom.letFlow(function));
            Dues.due("no gain", 0, loom.order(function));
            Dues.due("the last one", 120 * function + 119, loom.orderAt(function, 119));
        }
        Dues.due("hot ones", 8.0f / 960.0f, loom.hotShare());
        Dues.due("rows", 8, loom.place());
        Dues.refused("960 bytes", IllegalStateException.class, () -> loom.make(1, false));
        Dues.due("sound", true, loom.isSound());
        for (int address = 0; address < 960; address += 2) {
            loom.poke(address, 48 + address % 8);
            loom.poke(address + 1, 254);
        }
        for (int function = 0; function < 8; function++) loom.poke(120 * function + 119, 83);
        for (int function = 0; function < 8; function++) loom.poke(120 * function + 118, 0);
        Dues.due("blocks of two slots", 480, loom.apart());
        for (int function = 0; function < 8; function++) {
            for (int block = 60 * function; block < 60 * function + 59; block++) {
                loom.count(block, 0, block * 7919 % 10000);
                loom.count(block, 1, block * 104729 % 10000);
            }
            loom.letFlow(function);
            loom.order(function);
        }
        Dues.due("sound with two slots", true, loom.isSound());
        for (int address = 0; address < 960; address++) loom.poke(address, 40 + address % 8);
        Dues.due("the last byte is an operation", 960, loom.run(0));
        Dues.due("none is behind it", 'i', loom.end());
        Dues.due("all lines", 120, loom.told('m'));
        loom.poke(959, 9);
        Dues.due("followed by none it is no operation", 959, loom.run(0));
    }
}
