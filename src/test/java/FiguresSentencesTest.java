import java.math.BigInteger;
import java.util.NoSuchElementException;

/** The exceptions of the terms and the promises 51 to 54, sentence by sentence: figures, and what is refused. */
final class FiguresSentencesTest {
    private static final Class<IllegalArgumentException> ARGUMENT = IllegalArgumentException.class;
    private static final Class<IllegalStateException> STATE = IllegalStateException.class;
    private static final Class<IndexOutOfBoundsException> BOUNDS = IndexOutOfBoundsException.class;
    private static final Class<NoSuchElementException> NONE = NoSuchElementException.class;
    private static final Class<UnsupportedOperationException> UNSUPPORTED = UnsupportedOperationException.class;

    public static void main(String[] args) {
        Sentences.openPart(0);
        Sentences.openPromises(51, 54);
        nothingChanged();
        firstOfDraft();
        firstOfImages();
        firstOfBlocks();
        firstOfFunctions();
        promiseHotShare();
        promiseMeanBytes();
        promiseChecksum();
        promiseIsSound();
        Sentences.close("FiguresSentencesTest");
    }

    private static void nothingChanged() {
        Sentences.part(0, "A method that throws an exception changes nothing.", () -> {
            Blockloom loom = Looms.full();
            refuseAll(loom, 99);
            refuseAll(loom, -1);
            refuseAll(loom, Integer.MIN_VALUE);
            refuseAll(loom, Integer.MAX_VALUE);
            Dues.due("an object of all", Looms.all(Looms.full()), Looms.all(loom));
            Blockloom empty = new Blockloom();
            refuseAll(empty, -2);
            refuseStates(empty);
            Dues.due("a new object", Looms.all(new Blockloom()), Looms.all(empty));
            Blockloom faulty = Looms.faulty();
            refuseAll(faulty, 99);
            Dues.refused("adopt", NONE, faulty::adopt);
            Dues.due("an object with a fault", Looms.all(Looms.faulty()), Looms.all(faulty));
        });
    }

    /** Calls that no state takes with such a number. */
    private static void refuseAll(Blockloom loom, int bad) {
        Sentences.Ask[] asks = {x -> x.op('p', bad, 0), x -> x.op('z', 0, bad), x -> x.op('!', 0, 0), x -> x.label(bad),
            x -> x.table(bad, 0), x -> x.table(0, bad), x -> x.guard(bad, 0, 0), x -> x.guard(0, bad, 0), x -> x.guard(0, 0, bad),
            x -> x.size(bad), x -> x.byteAt(bad, 0), x -> x.byteAt(0, bad), x -> x.poke(bad, 0), x -> x.poke(0, bad == 99 ? 256 : bad),
            x -> x.begins(bad, 0), x -> x.begins(0, bad), x -> x.piece(bad, 0, 'f'), x -> x.piece(0, bad, 'f'), x -> x.piece(0, 0, '!'),
            x -> x.tableAt(bad, 0, 0), x -> x.tableAt(0, bad, 0), x -> x.tableAt(0, 0, bad), x -> x.guardAt(bad, 0, 'f'),
            x -> x.guardAt(0, bad, 'f'), x -> x.guardAt(0, 0, '!'), x -> x.run(bad), x -> x.printAt(bad == 99 ? 5000 : bad),
            x -> x.told('!'), x -> x.isThere(bad), x -> x.block(bad, 'f'), x -> x.block(0, '!'), x -> x.endOf(bad),
            x -> x.opAt(bad, 0), x -> x.opAt(0, bad), x -> x.successor(bad, 0), x -> x.successor(0, bad), x -> x.train(bad),
            x -> x.count(bad, 0, 0), x -> x.count(0, bad == -1 ? -2 : bad, 0), x -> x.count(0, 0, bad == 99 ? 10000 : bad),
            x -> x.counted(bad, 0), x -> x.counted(0, bad == -1 ? -2 : bad), x -> x.letFlow(bad), x -> x.flow(bad, 0),
            x -> x.flow(0, bad == -1 ? -2 : bad), x -> x.weight(bad), x -> x.same(bad), x -> x.order(bad), x -> x.orderAt(bad, 0),
            x -> x.orderAt(0, bad), x -> x.gain(bad), x -> x.placed(bad), x -> x.make(bad, true), x -> x.longs(bad)};
        for (int index = 0; index < asks.length; index++) {
            Sentences.Ask ask = asks[index];
            Dues.due("call " + index + " with " + bad, true, Dues.of(() -> ask.of(loom)).toString().startsWith("throws "));
        }
    }

    /** Calls that a new object does not take. */
    private static void refuseStates(Blockloom loom) {
        Sentences.Ask[] asks = {x -> x.op('h', 0, 0), x -> x.label(0), x -> x.table(0, 0), x -> x.guard(0, 0, 0), Blockloom::link,
            Blockloom::adopt, x -> x.run(0), x -> x.run(1), Blockloom::apart, Blockloom::faultAt, Blockloom::blocks, x -> x.train(1),
            Blockloom::thread, Blockloom::drop, Blockloom::fold, Blockloom::place, x -> x.make(1, true), x -> x.longs(0),
            Blockloom::isLike, Blockloom::hotShare, Blockloom::meanBytes};
        for (int index = 0; index < asks.length; index++) {
            Sentences.Ask ask = asks[index];
            Dues.due("call " + index, true, Dues.of(() -> ask.of(loom)).toString().startsWith("throws "));
        }
    }

    private static final String FIRST = "If several exceptions apply, the one that is documented first is thrown.";

    private static Blockloom drafted(int ops, int guards) {
        Blockloom loom = Looms.drafted("F L0 T0,0 T0,0 T0,0 T0,0 T0,0");
        for (int op = 0; op < ops; op++) loom.op('n', 0, 0);
        for (int guard = 0; guard < guards; guard++) loom.guard(0, 0, 0);
        return loom;
    }

    private static void firstOfDraft() {
        Sentences.part(0, FIRST, () -> {
            Sentences.refused(ARGUMENT, Blockloom::new, x -> x.op('!', 0, 0), x -> x.op('p', 8, 0), x -> x.op('s', 0, 256));
            Sentences.refused(ARGUMENT, () -> drafted(40, 0), x -> x.op('!', 0, 0), x -> x.op('p', -1, 0), x -> x.op('j', 0, 10));
            Sentences.refused(STATE, () -> drafted(40, 0), x -> x.op('j', 8, 9), x -> x.op('p', 7, 256));
            Sentences.refused(ARGUMENT, Blockloom::new, x -> x.label(10), x -> x.table(4, 0), x -> x.table(0, 10), x -> x.guard(0, 0, 10),
                x -> x.guard(10, 0, 0), x -> x.guard(0, -1, 0));
            Sentences.refused(ARGUMENT, () -> drafted(1, 8), x -> x.table(0, 10), x -> x.guard(0, 0, 10), x -> x.guard(-1, 0, 0));
        });
    }

    private static void firstOfImages() {
        Sentences.part(0, FIRST, () -> {
            for (Sentences.Recipe recipe : new Sentences.Recipe[] {Blockloom::new, Looms::full}) {
                Sentences.refused(BOUNDS, recipe, x -> x.byteAt(2, -1), x -> x.begins(-1, 99), x -> x.piece(2, 99, 'x'), x -> x.piece(2, 0, 'x'),
                    x -> x.tableAt(2, 4, 5), x -> x.guardAt(-1, 99, 'x'), x -> x.guardAt(2, 0, 'x'), x -> x.run(2), x -> x.longs(-1));
                Sentences.refused(NONE, recipe, x -> x.poke(99, 256), x -> x.poke(-1, -1), x -> x.piece(0, 99, 'x'), x -> x.piece(1, -1, 'x'),
                    x -> x.guardAt(0, 99, 'x'), x -> x.guardAt(1, -1, 'x'));
            }
        });
    }

    private static void firstOfBlocks() {
        Sentences.part(0, FIRST, () -> {
            for (Sentences.Recipe recipe : new Sentences.Recipe[] {Blockloom::new, Looms::faulty}) {
                Sentences.refused(UNSUPPORTED, recipe, x -> x.isThere(-1), x -> x.block(-1, 'x'), x -> x.block(0, 'x'), x -> x.endOf(99),
                    x -> x.opAt(-1, -1), x -> x.opAt(0, 99), x -> x.successor(-1, -1), x -> x.successor(0, 99), x -> x.train(0), x -> x.train(10),
                    x -> x.count(-1, -2, -1), x -> x.count(0, 99, -1), x -> x.count(0, 0, 10000), x -> x.counted(-1, -2), x -> x.counted(0, 99),
                    x -> x.flow(-1, -2), x -> x.flow(0, 99), x -> x.weight(-1));
            }
            Sentences.refused(BOUNDS, Looms::takenAway, x -> x.block(1, 'x'), x -> x.block(-1, 'x'), x -> x.opAt(1, -1), x -> x.opAt(4, 99),
                x -> x.successor(3, -1), x -> x.successor(-1, 99), x -> x.count(1, -2, -1), x -> x.count(3, 0, 10000), x -> x.count(4, 99, 0),
                x -> x.counted(1, 99), x -> x.counted(-1, -2), x -> x.flow(3, 99), x -> x.flow(4, -2));
            Sentences.refused(NONE, Looms::takenAway, x -> x.count(0, 99, -1), x -> x.count(0, -2, 10000), x -> x.count(2, 1, 10000));
        });
    }

    private static void firstOfFunctions() {
        Sentences.part(0, FIRST, () -> {
            for (Sentences.Recipe recipe : new Sentences.Recipe[] {Blockloom::new, Looms::faulty}) {
                Sentences.refused(UNSUPPORTED, recipe, x -> x.letFlow(-1), x -> x.same(99), x -> x.order(99), x -> x.orderAt(-1, -1),
                    x -> x.orderAt(0, 99), x -> x.gain(-1), x -> x.placed(-1), x -> x.placed(99), x -> x.make(3, true), x -> x.make(0, false));
            }
            Sentences.refused(BOUNDS, Looms::takenAway, x -> x.orderAt(2, 99), x -> x.orderAt(-1, -1), x -> x.orderAt(3, 0));
            Blockloom large = Looms.linked("F h");
            StringBuilder text = new StringBuilder();
            for (int function = 0; function < 8; function++) {
                text.append(" F");
                for (int op = 0; op < 39; op++) text.append(" c0");
                text.append(" h");
            }
            large.wipe();
            Looms.draft(large, text.toString());
            large.link();
            large.apart();
            Dues.refused("by 3", ARGUMENT, () -> large.make(3, false));
            Dues.refused("by 1", STATE, () -> large.make(1, false));
        });
    }

    private static void promiseHotShare() {
        Sentences.promise(51, "Returns the share of blocks with a weight above 0.", () -> {
            Blockloom loom = Looms.apart("F z1,0 h L0 h");
            Dues.due("none", 0.0f, loom.hotShare());
            loom.train(1);
            Dues.due("by weights, not by counts", 0.0f, loom.hotShare());
            loom.letFlow(0);
            Dues.due("two of three", 2.0f / 3.0f, loom.hotShare());
            Blockloom all = Looms.apart("F h");
            all.count(0, 0, 1);
            all.count(0, -1, 1);
            all.letFlow(0);
            Dues.due("all", 1.0f, all.hotShare());
        });
        Sentences.promise(51, "Returns how many of those that are there have one, divided by how many are there, both converted to float.", () -> {
            Blockloom loom = Looms.takenAway();
            Dues.due("none", 0.0f, loom.hotShare());
            loom.train(1);
            loom.letFlow(0);
            loom.letFlow(1);
            Dues.due("one of two", 0.5f, loom.hotShare());
            StringBuilder text = new StringBuilder("F");
            for (int block = 0; block < 40; block++) text.append(" h");
            Blockloom many = Looms.apart(text.toString());
            many.train(1);
            many.letFlow(0);
            Dues.due("one of 40", 1.0f / 40.0f, many.hotShare());
        });
        Sentences.promise(51, "Throws `UnsupportedOperationException` if the old image is not apart without a fault", () ->
            Sentences.needsApart(Blockloom::hotShare));
    }

    private static void promiseMeanBytes() {
        Sentences.promise(52, "Returns the mean size of the functions of the old image.", () -> {
            Dues.due("1", 1.0, Looms.linked("F h").meanBytes());
            Dues.due("4 by 3", 4.0 / 3.0, Looms.linked("F h F p1 r F r").meanBytes());
            Blockloom loom = Looms.apart("F n n h");
            loom.make(1, false);
            Dues.due("of the old one", 3.0, loom.meanBytes());
        });
        Sentences.promise(52, "Returns the bytes of all pieces divided by the number of functions, both converted to double.", () -> {
            Blockloom loom = Looms.apart("F c1 c2 h F p1 r F p1 r");
            loom.fold();
            loom.make(8, false);
            loom.adopt();
            Dues.due("9 by 3, not 10 by 2", 3.0, loom.meanBytes());
            Blockloom split = Looms.apart("F z1,0 p1 h L0 h F r");
            split.train(1);
            split.letFlow(0);
            split.make(4, true);
            split.adopt();
            Dues.due("of two pieces", 6.0 / 2.0, split.meanBytes());
            Dues.due("with a fault too", true, Looms.faulty().meanBytes() > 0);
        });
        Sentences.promise(52, "Throws `NoSuchElementException` if it was not made", () -> {
            Sentences.refused(NONE, Blockloom::new, Blockloom::meanBytes);
            Sentences.refused(NONE, () -> Looms.drafted("F h"), Blockloom::meanBytes);
        });
    }

    private static long sum(int... numbers) {
        BigInteger sum = BigInteger.valueOf(7);
        for (int number : numbers) sum = sum.multiply(BigInteger.valueOf(31)).add(BigInteger.valueOf(number));
        return sum.longValue();
    }

    private static void promiseChecksum() {
        String words = "Returns 7 at first, then 31 times itself plus each of: for both images the number of bytes, and each byte; how many "
            + "functions the draft has, and numbers to read there are; the codes of the end of the last run and of the fault;";
        Sentences.promise(53, "Returns a sum over all.", () -> {
            Dues.due("of a full one", Looms.full().checksum(), Looms.full().checksum());
            Dues.due("a new one", sum(0, 0, 0, 0, 45, 45), new Blockloom().checksum());
        });
        Sentences.promise(53, words, () -> {
            Blockloom loom = Looms.drafted("F s1,255 h F r");
            Dues.due("a draft", sum(0, 0, 2, 0, 45, 45), loom.checksum());
            loom.link();
            Dues.due("an image", sum(4, 9, 255, 83, 82, 0, 2, 0, 45, 45), loom.checksum());
            loom.feed(-7);
            loom.feed(8);
            Dues.due("numbers", sum(4, 9, 255, 83, 82, 0, 2, 2, 45, 45), loom.checksum());
            loom.run(0);
            Dues.due("a run", sum(4, 9, 255, 83, 82, 0, 2, 2, 'h', 45), loom.checksum());
            loom.wipe();
            loom.poke(0, 255);
            loom.apart();
            Dues.due("a fault", sum(4, 255, 255, 83, 82, 0, 0, 2, 'h', 'o'), loom.checksum());
            loom.poke(0, 9);
            Dues.due("not apart", sum(4, 9, 255, 83, 82, 0, 0, 2, 'h', 45), loom.checksum());
        });
        Sentences.promise(53, "and, if the old image is apart without a fault, for each block 1 or 0 for being there, the code of its end, and "
            + "for its way in, if it has one, and its slots, the count, the flow and where it goes, -1 for the way in;", () -> {
                Blockloom loom = Looms.apart("F z1,0 n h L0 r");
                loom.make(1, false);
                int[] image = {6, 65, 0, 2, 0, 83, 82, 4, 49, 1, 83, 82, 1, 0, 45, 45};
                Dues.due("apart", sum(join(image, 1, 'c', 0, 0, -1, 0, 0, 2, 0, 0, 1, 1, 'h', 0, 0, -1, 1, 'r', 0, 0, -1)), loom.checksum());
                loom.count(0, -1, 9);
                loom.count(0, 0, 9999);
                loom.count(0, 1, 4);
                loom.count(2, 0, 5);
                loom.letFlow(0);
                Dues.due("flowing", "9/5 4; 4; 5", Looms.counts(loom, true));
                Dues.due("with flows", sum(join(image, 1, 'c', 9, 9, -1, 9999, 5, 2, 4, 4, 1, 1, 'h', 0, 4, -1, 1, 'r', 5, 5, -1)), loom.checksum());
                Blockloom dropped = Looms.apart("F h L0 j0");
                dropped.count(1, 0, 3);
                dropped.drop();
                Dues.due("taken away", sum(4, 83, 81, 255, 253, 0, 1, 0, 45, 45, 1, 'h', 0, 0, -1, 0, 0, -1, 0, 'g', 3, 0, 1), dropped.checksum());
            });
        Sentences.promise(53, "a long that goes round.", () -> {
            int[] numbers = new int[326];
            numbers[0] = 320;
            StringBuilder text = new StringBuilder();
            for (int function = 0; function < 8; function++) {
                text.append(" F");
                for (int op = 0; op < 40; op++) text.append(" t7");
            }
            java.util.Arrays.fill(numbers, 1, 321, 111);
            numbers[322] = 8;
            numbers[324] = 45;
            numbers[325] = 45;
            Dues.due("of 320 bytes", sum(numbers), Looms.linked(text.toString()).checksum());
        });
    }

    private static int[] join(int[] first, int... second) {
        int[] both = java.util.Arrays.copyOf(first, first.length + second.length);
        System.arraycopy(second, 0, both, first.length, second.length);
        return both;
    }

    private static void promiseIsSound() {
        Sentences.promise(54, "Checks the theorem for what there is: that functions flow that were let flow, no order of up to 8 blocks gains more "
            + "than one that was ordered since its function was let flow last, each short jump of the new image reaches an operation, it is "
            + "apart without a fault, and does the same as the old one.", () -> {
                Blockloom loom = Looms.apart("F L0 d1 y1,1 p1 h L1 p2 j0");
                loom.feed(1);
                loom.feed(1);
                loom.train(1);
                Dues.due("nothing flows", true, loom.isSound());
                loom.letFlow(0);
                Dues.due("it flows", true, loom.isSound());
                loom.order(0);
                Dues.due("it is ordered", true, loom.isSound());
                for (int slot = 0; slot < 2; slot++) loom.count(0, slot, 50 - 40 * slot);
                Dues.due("other counts", true, loom.isSound());
                loom.letFlow(0);
                Dues.due("an order of former flows", true, loom.isSound());
                loom.make(8, true);
                Dues.due("a new image", true, loom.isSound());
                loom.clear();
                Dues.due("other numbers", true, loom.isSound());
                loom.drop();
                loom.fold();
                Dues.due("altered since", true, loom.isSound());
                Dues.due("the last run stays", 'h', loom.end());
            });
        Sentences.promise(54, "no order of up to 8 blocks gains more than one that was ordered since its function was let flow last,", () -> {
            Blockloom loom = Looms.apart("F L0 h L1 y1,3 L2 h L3 h L4 j2 G0,1,1 G0,1,4");
            int[] counts = {10, 100, 10};
            for (int round = 0; round < 3; round++) {
                loom.count(1, 0, counts[round]);
                loom.count(1, 1, 9);
                loom.count(4, 0, 9);
                loom.count(2, 0, counts[round] + 9);
                loom.count(3, 0, 9);
                loom.count(1, -1, counts[round] + 9);
                loom.count(4, -1, 9);
                Dues.due("it flows", 0, loom.letFlow(0));
                Dues.due("ordered ahead of that", true, loom.isSound());
                Dues.due("ordered", counts[round] == 10 ? 18 : 100, loom.order(0));
                Dues.due("ordered since", true, loom.isSound());
            }
        });
        Sentences.promise(54, "Returns whether all of this is so.", () -> {
            Dues.due("new object", true, new Blockloom().isSound());
            Dues.due("a draft", true, Looms.drafted("F j0").isSound());
            Dues.due("an image", true, Looms.linked("F n").isSound());
            Dues.due("a fault", true, Looms.faulty().isSound());
            Dues.due("all", true, Looms.full().isSound());
            Dues.due("taken away", true, Looms.takenAway().isSound());
            Dues.due("without a piece", true, Looms.withoutPiece().isSound());
        });
    }
}
