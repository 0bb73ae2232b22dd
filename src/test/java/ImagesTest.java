import java.util.NoSuchElementException;

/** Promises 9 to 16: images. */
final class ImagesTest {
    private static final Class<IllegalArgumentException> ARGUMENT = IllegalArgumentException.class;
    private static final Class<IndexOutOfBoundsException> BOUNDS = IndexOutOfBoundsException.class;
    private static final Class<NoSuchElementException> NONE = NoSuchElementException.class;

    public static void main(String[] args) {
        sizes();
        bytes();
        poking();
        begins();
        pieces();
        tables();
        guards();
        adopting();
        Dues.close("ImagesTest");
    }

    private static void sizes() {
        Blockloom loom = Looms.apart("F s1,200 p1 h");
        Dues.due("old size", 4, loom.size(0));
        Dues.due("new size", 0, loom.size(1));
        loom.make(1, false);
        Dues.due("new size made", 4, loom.size(1));
        Dues.refused("size of -1", BOUNDS, () -> loom.size(-1));
        Dues.refused("size of 2", BOUNDS, () -> loom.size(2));
    }

    private static void bytes() {
        Blockloom loom = Looms.linked("F s1,200 p1 h");
        Dues.due("byte 1", 200, loom.byteAt(0, 1));
        Dues.due("byte 3", 83, loom.byteAt(0, 3));
        Dues.refused("byte 4", NONE, () -> loom.byteAt(0, 4));
        Dues.refused("byte -1", NONE, () -> loom.byteAt(0, -1));
        Dues.refused("byte of new", NONE, () -> loom.byteAt(1, 0));
        Dues.refused("byte of 2", BOUNDS, () -> loom.byteAt(2, -1));
    }

    private static void poking() {
        Blockloom loom = Looms.apart("F s1,200 p1 h");
        loom.make(1, false);
        Dues.refused("poke 4", NONE, () -> loom.poke(4, 256));
        Dues.refused("poke -1", NONE, () -> loom.poke(-1, 0));
        Dues.refused("poke 256", ARGUMENT, () -> loom.poke(0, 256));
        Dues.refused("poke of -1", ARGUMENT, () -> loom.poke(0, -1));
        Dues.due("a refused poke changes nothing", 1, loom.blocks());
        Dues.due("poke", 200, loom.poke(1, 255));
        Dues.due("poked", 255, loom.byteAt(0, 1));
        Dues.due("no new one", 0, loom.size(1));
        Dues.refused("not apart", UnsupportedOperationException.class, loom::blocks);
        loom.run(0);
        Dues.due("poked byte runs", "255", Looms.prints(loom));
        loom.poke(0, 128);
        Dues.due("fault", -1, loom.apart());
        Dues.due("fault o", 'o', loom.fault());
        loom.poke(0, 9);
        Dues.due("no fault behind a poke", '-', loom.fault());
    }

    private static void begins() {
        Blockloom loom = Looms.apart("F c1 h F c2 r F r");
        Dues.due("begin of 0", 0, loom.begins(0, 0));
        Dues.due("begin of 1", 4, loom.begins(0, 1));
        Dues.due("begin of 2", 8, loom.begins(0, 2));
        Dues.refused("begin of 3", NONE, () -> loom.begins(0, 3));
        Dues.refused("begin of -1", NONE, () -> loom.begins(0, -1));
        Dues.refused("begin in none", NONE, () -> loom.begins(1, 0));
        Dues.refused("begin in 2", BOUNDS, () -> loom.begins(2, 9));
        loom.make(8, false);
        Dues.due("begin of 2, aligned", 16, loom.begins(1, 2));
    }

    private static void pieces() {
        Blockloom loom = Looms.linked("F c1 h F c2 r F r");
        Dues.due("pieces", "0:0-4 1:4-8 2:8-9", Looms.pieces(loom, 0));
        Dues.refused("piece 3", NONE, () -> loom.piece(0, 3, 'q'));
        Dues.refused("piece -1", NONE, () -> loom.piece(0, -1, 'f'));
        Dues.refused("piece of new", NONE, () -> loom.piece(1, 0, 'f'));
        Dues.refused("piece of 2", BOUNDS, () -> loom.piece(2, 0, 'f'));
        Dues.refused("piece q", ARGUMENT, () -> loom.piece(0, 0, 'q'));
    }

    private static void tables() {
        Blockloom loom = Looms.linked("F L0 w1,1 h L1 h T1,1 T1,0 T3,1");
        Dues.due("table 1", "3 0", Looms.table(loom, 0, 1));
        Dues.due("table 3", 3, loom.tableAt(0, 3, 0));
        Dues.refused("table 1 at 2", NONE, () -> loom.tableAt(0, 1, 2));
        Dues.refused("table 1 at -1", NONE, () -> loom.tableAt(0, 1, -1));
        Dues.refused("table 0", NONE, () -> loom.tableAt(0, 0, 0));
        Dues.refused("table 4", NONE, () -> loom.tableAt(0, 4, 0));
        Dues.refused("table -1", NONE, () -> loom.tableAt(0, -1, 0));
        Dues.refused("table of new", NONE, () -> loom.tableAt(1, 1, 0));
        Dues.refused("table of image 2", BOUNDS, () -> loom.tableAt(2, 4, 0));
    }

    private static void guards() {
        Blockloom loom = Looms.linked("F L0 t1 L1 h L2 G0,1,1 G0,2,1");
        Dues.due("guards", "0-1^1 0-2^1", Looms.guards(loom, 0));
        Dues.refused("guard 2", NONE, () -> loom.guardAt(0, 2, 'x'));
        Dues.refused("guard -1", NONE, () -> loom.guardAt(0, -1, 'f'));
        Dues.refused("guard of new", NONE, () -> loom.guardAt(1, 0, 'f'));
        Dues.refused("guard x", ARGUMENT, () -> loom.guardAt(0, 0, 'x'));
        Dues.refused("guard of image -1", BOUNDS, () -> loom.guardAt(-1, 0, 'f'));
    }

    private static void adopting() {
        Blockloom loom = Looms.apart("F d1 z1,0 L0 p1 n h");
        Dues.refused("adopt none", NONE, loom::adopt);
        Dues.due("apart stays", 2, loom.blocks());
        loom.make(1, false);
        String made = Looms.bytes(loom, 1);
        Dues.due("adopt", 3, loom.adopt());
        Dues.due("adopted", made, Looms.bytes(loom, 0));
        Dues.due("no new one", 0, loom.size(1));
        Dues.refused("not apart", UnsupportedOperationException.class, loom::blocks);
        Dues.refused("adopt again", NONE, loom::adopt);
        Dues.due("apart again", 1, loom.apart());
    }
}
