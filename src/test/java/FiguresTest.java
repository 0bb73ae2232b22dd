import java.util.NoSuchElementException;

/** Promises 51 to 54: figures. */
final class FiguresTest {
    private static final String COUNTDOWN = "F s1,3 s2,1 L1 z1,2 p1 b1,2 j1 L2 h";

    public static void main(String[] args) {
        shares();
        means();
        sums();
        sumsAltered();
        soundness();
        Dues.close("FiguresTest");
    }

    private static void shares() {
        Blockloom loom = Looms.linked("F d1 z1,0 p1 h L0 p2 h h");
        Dues.refused("not apart", UnsupportedOperationException.class, loom::hotShare);
        loom.apart();
        Dues.due("without weights", 0.0f, loom.hotShare());
        loom.train(1);
        loom.letFlow(0);
        Dues.due("two of four", 0.5f, loom.hotShare());
        loom.drop();
        loom.letFlow(0);
        Dues.due("two of three", 2.0f / 3.0f, loom.hotShare());
        loom.poke(0, 255);
        loom.apart();
        Dues.refused("with a fault", UnsupportedOperationException.class, loom::hotShare);
    }

    private static void means() {
        Dues.refused("no image", NoSuchElementException.class, () -> new Blockloom().meanBytes());
        Blockloom loom = Looms.linked("F p1 h F r F c1 r");
        Dues.due("7 by 3", 7.0 / 3.0, loom.meanBytes());
        loom = Looms.apart("F c1 c2 h F p1 r F p1 r");
        loom.fold();
        loom.make(8, false);
        loom.adopt();
        Dues.due("without what stands ahead of pieces", 9.0 / 3.0, loom.meanBytes());
        Dues.due("size", 10, loom.size(0));
    }

    /** The sum by what the face tells, with the draft's functions and the numbers to read. */
    private static long sumOf(Blockloom loom, int functions, int numbers) {
        long sum = 7;
        for (int image = 0; image < 2; image++) {
            sum = sum * 31 + loom.size(image);
            for (int address = 0; address < loom.size(image); address++) sum = sum * 31 + loom.byteAt(image, address);
        }
        sum = sum * 31 + functions;
        sum = sum * 31 + numbers;
        sum = sum * 31 + loom.end();
        sum = sum * 31 + loom.fault();
        if (!(Dues.of(loom::blocks) instanceof Integer)) return sum;
        for (int block = 0; block < loom.blocks(); block++) {
            sum = sum * 31 + 1;
            sum = sum * 31 + loom.endOf(block);
            for (int slot = Looms.hasWayIn(loom, block) ? -1 : 0; slot < loom.block(block, 's'); slot++) {
                sum = sum * 31 + loom.counted(block, slot);
                sum = sum * 31 + loom.flow(block, slot);
                sum = sum * 31 + (slot < 0 ? -1 : loom.successor(block, slot));
            }
        }
        return sum;
    }

    private static void sums() {
        Dues.due("of a new object", ((((7L * 31) * 31) * 31) * 31 * 31 + 45) * 31 + 45, new Blockloom().checksum());
        Blockloom loom = Looms.drafted("F d1 w1,0 L0 p1 r T0,0 F L0 t2 L1 y1,1 r G0,1,1 F c1 r");
        Dues.due("of a draft", sumOf(loom, 3, 0), loom.checksum());
        loom.link();
        Dues.due("of an image", sumOf(loom, 3, 0), loom.checksum());
        loom.feed(-5);
        loom.feed(5);
        Dues.due("of numbers", sumOf(loom, 3, 2), loom.checksum());
        loom.run(0);
        Dues.due("of a run", sumOf(loom, 3, 2), loom.checksum());
        loom.apart();
        loom.train(1);
        Dues.due("apart", sumOf(loom, 3, 2), loom.checksum());
        loom.letFlow(0);
        loom.letFlow(1);
        Dues.due("with flows", sumOf(loom, 3, 2), loom.checksum());
        loom.make(4, true);
        Dues.due("with a new one", sumOf(loom, 3, 2), loom.checksum());
        loom.wipe();
        Dues.due("without a draft", sumOf(loom, 0, 2), loom.checksum());
        loom.poke(0, 200);
        loom.apart();
        Dues.due("with a fault", sumOf(loom, 0, 2), loom.checksum());
    }

    private static void sumsAltered() {
        Blockloom loom = Looms.apart("F h L0 j0");
        loom.count(1, 0, 3);
        loom.drop();
        long sum = 7;
        int[] all = {4, 83, 81, 255, 253, 0, 1, 0, '-', '-', 1, 'h', 0, 0, -1, 0, 0, -1, 0, 'g', 3, 0, 1};
        for (int number : all) sum = sum * 31 + number;
        Dues.due("with one taken away", sum, loom.checksum());
    }

    private static void soundness() {
        Dues.due("new object", true, new Blockloom().isSound());
        Blockloom loom = Looms.apart(COUNTDOWN);
        Dues.due("apart", true, loom.isSound());
        loom.train(7);
        loom.letFlow(0);
        loom.order(0);
        loom.make(2, true);
        Dues.due("made", true, loom.isSound());
        Dues.due("no run by that", 'h', loom.end());
        loom.count(1, 0, 500);
        Dues.due("counts do not matter", true, loom.isSound());
        loom.letFlow(0);
        Dues.due("an order of former flows", true, loom.isSound());
        loom.poke(0, 255);
        loom.apart();
        Dues.due("with a fault", true, loom.isSound());
    }
}
