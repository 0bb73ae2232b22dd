import java.util.NoSuchElementException;

/** Promises 17 to 23: runs. */
final class RunsTest {
    private static final Class<NoSuchElementException> NONE = NoSuchElementException.class;
    private static final String COUNTDOWN = "F s1,3 s2,1 L1 z1,2 p1 b1,2 j1 L2 h";

    public static void main(String[] args) {
        feeding();
        running();
        arithmetic();
        calls();
        depth();
        throwing();
        switching();
        ends();
        misses();
        lastRunStays();
        Dues.close("RunsTest");
    }

    private static void due(String text, String want, int... fed) {
        Blockloom loom = Looms.linked(text);
        for (int number : fed) loom.feed(number);
        Dues.due("run of " + text, want, Looms.ran(loom, 0));
        Dues.due("run again of " + text, want, Looms.ran(loom, 0));
    }

    private static void feeding() {
        Blockloom loom = new Blockloom();
        for (int many = 1; many <= 16; many++) Dues.due("feed", many, loom.feed(-many));
        Dues.refused("feed 17", IllegalStateException.class, () -> loom.feed(1));
        Dues.due("clear", 16, loom.clear());
        Dues.due("clear again", 0, loom.clear());
        Dues.due("feed anew", 1, loom.feed(Integer.MIN_VALUE));
        Looms.draft(loom, "F d1 p1 d2 p2 h");
        loom.link();
        Dues.due("reads", "-2147483648 0 | h 5 0 0 1 0", Looms.ran(loom, 0));
        Dues.due("reads from the first one on", "-2147483648 0 | h 5 0 0 1 0", Looms.ran(loom, 0));
        Dues.due("numbers stay", 1, loom.clear());
    }

    private static void running() {
        Blockloom loom = Looms.linked(COUNTDOWN);
        Dues.due("end of none", '-', loom.end());
        Dues.due("prints of none", 0, loom.prints());
        for (char what : "jtmd".toCharArray()) Dues.due("told of none", 0, loom.told(what));
        Dues.refused("run of new", NONE, () -> loom.run(1));
        Dues.refused("run of 2", IndexOutOfBoundsException.class, () -> loom.run(2));
        Dues.refused("run of -1", IndexOutOfBoundsException.class, () -> loom.run(-1));
        Dues.refused("printed by none", NONE, () -> loom.printAt(0));
        Dues.due("run", "3 2 1 | h 9 7 4 2 0", Looms.ran(loom, 0));
        Dues.due("printed", 1, loom.printAt(2));
        Dues.refused("printed 3", NONE, () -> loom.printAt(3));
        Dues.refused("printed -1", NONE, () -> loom.printAt(-1));
        Dues.refused("told x", IllegalArgumentException.class, () -> loom.told('x'));
        loom.apart();
        loom.make(1, false);
        Dues.due("run of the new one", 9, loom.run(1));
    }

    private static void arithmetic() {
        due("F s1,255 m1,1 p1 m1,1 p1 h", "65025 -66716671 | h 6 0 0 2 0");
        due("F d1 d2 a1,2 p1 b1,2 b1,2 p1 h", "-2147483648 2147483646 | h 8 0 0 2 0", 2147483647, 1);
        due("F s1,9 n p2 n h", "0 | h 3 0 0 1 0");
        due("F p1 s1,5 p1 h", "0 5 | h 4 0 0 1 0");
        due("F s1,4 b1,1 p1 r", "0 | r 4 0 0 1 0");
    }

    private static void calls() {
        due("F c1 p0 r F s0,7 r", "7 | r 5 0 0 1 1");
        due("F s1,1 f1 p0 h F s0,6 r", "6 | h 6 0 0 1 1");
        due("F c1 c1 h F c2 r F p0 r", "0 0 | h 11 0 0 2 2");
        due("F s1,2 f1 h", " | x 1 0 0 1 0");
        due("F d1 f1 h", " | x 1 0 0 1 0", -1);
        due("F s1,1 y1,0 h L0 c1 h F z0,0 p1 L0 r", " | h 4 2 2 2 1");
    }

    private static void depth() {
        due("F c0 h", " | d 12 0 0 1 12");
        due("F d1 f1 h", " | d 25 0 0 1 12");
        due("F d1 f1 h", " | x 25 0 0 1 12", 0, 0, 0, 0, 0, 0, 0, 0, 0, 0, 0, 0, 1);
        due("F d1 f1 h F s1,5 f1", " | x 13 0 0 1 6", 0, 0, 0, 0, 0, 1);
    }

    private static void throwing() {
        due("F L0 s1,9 t1 L1 h L2 p0 h G0,1,2", "9 | h 4 0 0 1 0");
        due("F L0 c1 L1 h L2 p0 h G0,1,2 F s3,8 t3", "8 | h 5 0 0 2 1");
        due("F s1,1 t1", " | u 2 0 0 1 0");
        due("F c1 h F t1", " | u 2 0 0 1 1");
        due("F L0 s1,1 L1 t1 L2 h G0,1,2", " | u 2 0 0 1 0");
        due("F L0 s1,1 L1 t1 L2 p1 h L3 p0 p0 h G1,2,3 G0,2,2", "1 1 | h 5 0 0 1 0");
        due("F L0 c1 L1 p7 h L2 p0 h G0,1,2 F L0 s3,8 t3 L1 p3 r G0,1,1", "8 0 | h 7 0 0 2 1");
        due("F L0 c1 L1 p7 h L2 p0 h G0,1,2 F L0 c2 L1 p7 r L2 p0 t0 G0,1,2 F s1,3 t1", "3 3 | h 8 0 0 3 2");
        Blockloom loom = Looms.linked("F L0 s1,1 L1 c1 L2 h L3 p0 c1 h G1,2,3 F t1");
        Dues.due("the open call is left", "1 | u 6 0 0 2 1", Looms.ran(loom, 0));
    }

    private static void switching() {
        String text = "F d1 w1,0 s2,9 p2 h L0 p1 h L1 s2,5 p2 h T0,0 T0,1";
        due(text, "0 | h 4 0 0 2 0", 0);
        due(text, "5 | h 5 0 0 2 0", 1);
        due(text, "9 | h 5 0 0 1 0", 2);
        due(text, "9 | h 5 0 0 1 0", -1);
        due("F w1,3 p1 h", "0 | h 3 0 0 1 0");
        Blockloom loom = Looms.linked("F L0 w1,0 p1 h T0,0");
        loom.poke(1, 200);
        Dues.due("table 200", "0 | h 3 0 0 1 0", Looms.ran(loom, 0));
    }

    private static void ends() {
        due("F L0 j0", " | l 0 1 1 1 0");
        due("F L0 n j0", " | l 0 1 1 1 0");
        due("F L0 y1,0 z1,0 h", " | l 0 2 1 1 0");
        due("F L0 s1,1 j0", " | s 1000 1000 1000 1 0");
        due("F n", " | i 0 0 0 1 0");
        due("F L0 p1 j0", new String(new char[999]).replace("\0", "0 ") + "0 | s 1000 1000 1000 1 0");
        sAheadOfOthers();
        Blockloom loom = Looms.linked("F p1 h p2 h");
        for (int value : new int[] {1, 7, 84, 87, 89, 95, 128, 255}) {
            loom.poke(1, value);
            Dues.due("no operation " + value, "0 | i 1 0 0 1 0", Looms.ran(loom, 0));
        }
        for (int value : new int[] {8, 16, 24, 32, 48, 56, 80, 96}) {
            Dues.due("cut off " + value, "| i 0 0 0 0 0", pokedRun("F h", 0, value).trim());
        }
        for (int value : new int[] {64, 72, 81, 88}) {
            Dues.due("cut off behind one byte " + value, "| i 0 0 0 0 0", pokedRun("F h h", 0, value).trim());
        }
        for (String sign : "a b m".split(" ")) {
            Dues.due("operand above 7 of " + sign, "| i 0 0 0 0 0", pokedRun("F " + sign + "1,7 h", 1, 8).trim());
        }
        Dues.due("jump far away", "| i 0 1 1 1 0", pokedRun("F L0 j0", 1, 127).trim());
        Dues.due("jump below 0", "| i 0 1 1 1 0", pokedRun("F L0 j0", 1, 128).trim());
        Dues.due("call far away", "| i 1 0 0 1 1", pokedRun("F c0", 1, 1).trim());
        Dues.due("short ways", "| i 0 2 2 2 0", shortWays().trim());
    }

    private static void dueEnd(String text, String want, int... fed) {
        Blockloom loom = Looms.linked(text);
        for (int number : fed) loom.feed(number);
        int works = loom.run(0);
        Dues.due("end of " + text, want, works + " " + loom.end());
    }

    private static void sAheadOfOthers() {
        dueEnd("F " + Looms.works(999) + " h", "1000 h");
        dueEnd("F " + Looms.works(1000) + " h", "1000 s");
        dueEnd("F " + Looms.works(999) + " r", "1000 r");
        dueEnd("F " + Looms.works(1000) + " t1", "1000 s");
        dueEnd("F s7,9 " + Looms.works(998) + " f7 h", "999 x");
        dueEnd("F s7,9 " + Looms.works(999) + " f7 h", "1000 s");
        int[] fed = {0, 0, 0, 0, 0, 0, 0, 0, 0, 0, 0, 0, 1};
        dueEnd("F d1 y1,0 c0 h L0 " + Looms.works(974) + " c0 h", "999 d", fed);
        dueEnd("F d1 y1,0 c0 h L0 " + Looms.works(975) + " c0 h", "1000 s", fed);
        dueEnd("F " + Looms.works(1000) + " L0 j0", "1000 l");
        Blockloom loom = Looms.linked("F " + Looms.works(1000) + " h");
        loom.poke(loom.size(0) - 1, 255);
        Dues.due("no operation behind 1000 works", 1000, loom.run(0));
        Dues.due("i, not s", 'i', loom.end());
    }

    private static String pokedRun(String text, int address, int value) {
        Blockloom loom = Looms.linked(text);
        loom.poke(address, value);
        return Looms.ran(loom, 0);
    }

    private static String shortWays() {
        Blockloom loom = Looms.linked("F n n n n n n n n n n n n n n n n n n n n h");
        loom.poke(0, 80);
        loom.poke(1, 10);
        loom.poke(12, 48 + 3);
        loom.poke(13, 250);
        loom.poke(8, 255);
        return Looms.ran(loom, 0);
    }

    private static void misses() {
        StringBuilder text = new StringBuilder("F c1 c1 h");
        for (int many = 0; many < 25; many++) text.append(" n");
        due(text + " F r", " | h 5 0 0 5 1");
        due(text + " F n n n n n n n n r", " | h 5 0 0 6 1");
    }

    private static void lastRunStays() {
        Blockloom loom = Looms.apart("F p1 h");
        loom.run(0);
        loom.make(1, false);
        loom.poke(0, 8);
        Dues.due("prints stay", 1, loom.prints());
        loom.apart();
        Dues.due("end stays", 'h', loom.end());
        loom.run(0);
        Dues.due("prints of the last one", 0, loom.prints());
    }
}
