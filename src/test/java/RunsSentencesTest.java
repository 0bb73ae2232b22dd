import java.util.NoSuchElementException;

/** Part 3 and the promises 17 to 23, sentence by sentence: runs. */
final class RunsSentencesTest {
    private static final Class<IllegalArgumentException> ARGUMENT = IllegalArgumentException.class;
    private static final Class<NoSuchElementException> NONE = NoSuchElementException.class;
    private static final int[] FAR = {-1, Integer.MIN_VALUE, Integer.MAX_VALUE};

    public static void main(String[] args) {
        Sentences.openPart(3);
        Sentences.openPromises(17, 23);
        begins();
        calls();
        throwing();
        guardsOfCalls();
        ends();
        notDone();
        worksAndJumps();
        limits();
        lines();
        promiseFeed();
        promiseClear();
        promiseRun();
        promiseEnd();
        promisePrints();
        promiseTold();
        Sentences.close("RunsSentencesTest");
    }

    /** Runs a draft: its prints, end and works. */
    private static String ran(String text, int... fed) {
        Blockloom loom = Looms.linked(text);
        for (int number : fed) loom.feed(number);
        int works = loom.run(0);
        return (Looms.prints(loom) + " " + loom.end() + " " + works).trim();
    }

    private static void due(String text, String want, int... fed) {
        Dues.due(text + " " + java.util.Arrays.toString(fed), want, ran(text, fed));
    }

    private static int told(char what, String text, int... fed) {
        Blockloom loom = Looms.linked(text);
        for (int number : fed) loom.feed(number);
        loom.run(0);
        return loom.told(what);
    }

    /** So many zeros to read, and one more number. */
    private static int[] zerosAnd(int many, int last) {
        int[] numbers = new int[many + 1];
        numbers[many] = last;
        return numbers;
    }

    private static void begins() {
        Sentences.part(3, "The machine begins where the function 0 does,", () -> {
            Blockloom loom = Looms.apart("F p1 h F s1,9 p1 h");
            loom.count(1, 0, 5);
            loom.count(1, -1, 5);
            loom.letFlow(1);
            loom.place();
            loom.make(8, false);
            Dues.due("it begins at 8", 8, loom.begins(1, 0));
            loom.run(1);
            Dues.due("new one", "0", Looms.prints(loom));
            loom.adopt();
            loom.run(0);
            Dues.due("adopted", "0", Looms.prints(loom));
        });
        Sentences.part(3, "The machine begins where the function 0 does,", () -> {
            Blockloom loom = Looms.linked("F c1 r F d1 z1,0 h L0 p1 r");
            loom.feed(1);
            for (int round = 0; round < 3; round++) {
                loom.run(0);
                Dues.due("an open call stays open", "h 1 0", loom.end() + " " + loom.told('d') + " " + loom.prints());
            }
            loom.clear();
            loom.run(0);
            Dues.due("no call of a former run is open", "r 1 1 5", loom.end() + " " + loom.told('d') + " " + loom.prints() + " " + loom.run(0));
            Blockloom returns = Looms.linked("F d1 z1,0 r L0 c1 h F h");
            returns.run(0);
            returns.feed(1);
            Dues.due("nothing to return to", "2 r", returns.run(0) + " " + returns.end());
        });
        Sentences.part(3, "with registers of 0.", () -> {
            Blockloom loom = Looms.linked("F p0 p1 p2 p3 p4 p5 p6 p7 s0,1 s1,1 s2,1 s3,1 s4,1 s5,1 s6,1 s7,1 h");
            for (int round = 0; round < 2; round++) {
                loom.run(0);
                Dues.due("all", "0 0 0 0 0 0 0 0", Looms.prints(loom));
            }
        });
        Sentences.part(3, "Numbers wrap as ints.", () -> {
            due("F d1 d2 a1,2 p1 h", "-2147483648 h 5", Integer.MAX_VALUE, 1);
            due("F d1 d2 b1,2 p1 h", "2147483647 h 5", Integer.MIN_VALUE, 1);
            due("F d1 d2 m1,2 p1 h", "0 h 5", 65536, 65536);
            due("F d1 d2 m1,2 p1 h", "-2147483648 h 5", 65536, 32768);
            due("F d1 d2 m1,2 p1 h", "-2147483648 h 5", Integer.MIN_VALUE, -1);
            due("F d1 d2 m1,2 p1 h", "1 h 5", Integer.MAX_VALUE, Integer.MAX_VALUE);
            due("F d1 d2 b2,1 p2 h", "-2147483648 h 5", Integer.MIN_VALUE, 0);
        });
    }

    private static void calls() {
        Sentences.part(3, "A call goes to the first operation of a function, and 'r' back behind it;", () -> {
            due("F c1 p1 c2 p1 h F s1,1 p1 r F s1,2 p1 c1 r", "1 1 2 1 1 h 15");
            due("F s1,1 f1 p2 h F s2,7 p2 r", "7 7 h 7");
        });
        Sentences.part(3, "the first function returns to the end 'r'.", () -> {
            due("F r", "r 1");
            due("F c1 p1 r p1 h F r", "0 r 4");
        });
        Sentences.part(3, "At most 12 calls are open;", () -> {
            String text = "F d1 y1,0 c0 r L0 p1 r";
            due(text, "7 r 39", zerosAnd(12, 7));
            Dues.due("12 are", 12, told('d', text, zerosAnd(12, 7)));
            due(text, "7 r 36", zerosAnd(11, 7));
            String byRegister = "F d1 y1,0 f7 r L0 p1 r";
            due(byRegister, "7 r 39", zerosAnd(12, 7));
            due("F c1 c1 c1 c1 c1 c1 c1 c1 c1 c1 c1 c1 c1 c1 h F r", "h 29");
        });
        Sentences.part(3, "one more ends by 'd'.", () -> {
            due("F c0 h", "d 12");
            due("F f1 h", "d 12");
            due("F d1 y1,0 c0 r L0 p1 r", "d 25", zerosAnd(13, 7));
            due("F c1 h F c2 r F c3 r F c4 r F c5 r F c6 r F c7 r F c0 r", "d 12");
            Dues.due("12 are open", 12, told('d', "F c0 h"));
        });
    }

    private static void throwing() {
        Sentences.part(3, "'t' goes to the guard of its own address,", () -> {
            due("F L0 c1 L1 h L2 p0 h G0,1,2 F L0 s1,3 t1 L1 r L2 p0 p0 r G0,1,2", "3 3 h 7");
            due("F L0 t1 h L1 L2 p0 h G0,1,2", "0 h 3");
        });
        Sentences.part(3, "otherwise to that of the address of the call that is open last, that being left, and so on;", () -> {
            due("F L0 c1 L1 h L2 p0 h G0,1,2 F s1,3 t1", "3 h 5");
            due("F L0 c1 L1 h L2 p0 h G0,1,2 F c2 r F c3 r F s1,4 t1", "4 h 7");
            due("F L0 c1 L1 h L2 p0 h G0,1,2 F L0 c2 L1 h L2 p0 p0 r G0,1,2 F s1,4 t1", "4 4 h 8");
            due("F L0 c1 L1 p7 h L2 p0 c1 h G0,1,2 F t1", "0 u 5");
            String left = "F L0 c1 L1 r L2 d1 y1,1 c0 r G0,1,2 F t1";
            Dues.due("calls that are left are open no more", 12, told('d', left, zerosAnd(11, 7)));
            due(left, "d 48", zerosAnd(12, 7));
        });
    }

    private static void guardsOfCalls() {
        Sentences.part(3, "the guard of an address is the first one in the order of guards that has it;", () -> {
            String text = " L0 n L1 t1 L2 n L3 h L4 s2,1 p2 h L5 s2,2 p2 h L6 s2,3 p2 h";
            due("F" + text + " G0,3,4 G1,2,5", "1 h 4");
            due("F" + text + " G1,2,5 G0,3,4", "2 h 4");
            due("F" + text + " G0,1,4 G1,2,5", "2 h 4");
            due("F" + text + " G2,3,4 G1,3,5 G0,3,6", "2 h 4");
            due("F" + text + " G0,1,4 G2,3,4", "u 1");
            due("F" + text + " G2,1,4 G1,1,5 G1,2,6", "3 h 4");
            due("F L0 n L1 c1 L2 h L3 p0 h G0,1,3 G2,3,3 F t1", "u 2");
            due("F L0 n L1 c1 L2 h L3 p0 h G1,2,3 F t1", "0 h 4");
        });
        Sentences.part(3, "the register 0 becomes what is thrown.", () -> {
            due("F L0 s0,9 d5 t5 L1 h L2 p0 p5 h G0,1,2", "-2147483648 -2147483648 h 6", Integer.MIN_VALUE);
            due("F L0 s0,9 t0 L1 h L2 p0 h G0,1,2", "9 h 4");
        });
        Sentences.part(3, "Without a guard the run ends by 'u'.", () -> {
            due("F t1", "u 1");
            due("F c1 h F c2 r F t1 r", "u 3");
            due("F s1,1 t1 L0 h L1 r G0,1,1", "u 2");
        });
    }

    private static void ends() {
        Sentences.part(3, "'h' ends by 'h', 'f' without such a function by 'x', what is no operation by 'i';", () -> {
            due("F h h", "h 1");
            due("F c1 r F h r", "h 2");
            for (int number : new int[] {-1, 2, 7, 8, Integer.MIN_VALUE, Integer.MAX_VALUE}) due("F d1 f1 h F r", "x 1", number);
            for (int number : new int[] {0, 1}) Dues.due("there is " + number, false, ran("F d1 f1 h F r", number).contains("x"));
            due("F s1,7 f1 h F h F h F h F h F h F h F p1 h", "7 h 4");
            due("F s1,8 f1 h F h F h F h F h F h F h F p1 h", "x 1");
            due("F n n", "i 0");
            due("F j0 L0", "i 0");
            Dues.due("ahead of the code", 'i', endOf(80, 200, 83));
            Dues.due("behind the code", 'i', endOf(80, 100, 83));
            Dues.due("right behind the code", 'i', endOf(80, 1, 83));
            Dues.due("a call ahead of the code", 'i', endOf(88, 128, 0, 83));
            Dues.due("a call behind the code", 'i', endOf(88, 127, 255, 83));
            Dues.due("a call right behind the code", 'i', endOf(88, 0, 1, 83));
            Dues.due("a call right ahead of the code", 'i', endOf(88, 255, 252, 83));
            due("F j0 L1 p1 h L0 w1,1 T1,1", "0 h 3");
            due("F j0 L1 p1 h L0 w1,1 T0,1", "i 1");
            due("F c1 F r", "r 3");
        });
    }

    private static char endOf(int... bytes) {
        Blockloom loom = Looms.code(bytes);
        loom.run(0);
        return loom.end();
    }

    private static void notDone() {
        String words = "what ends a run by 'd', 'x', 'i', or as told next, is not done, and looks up no line,";
        Sentences.part(3, words, () -> {
            dueMisses("d", "F d1 y1,0 c0 h L0 c0 h", "d 25", 1, zerosAnd(12, 7));
            dueMisses("x", "F s1,9 n n n n n n f1 h", "x 1", 1);
            dueMisses("i", "F n n n n n n n n", "i 0", 1);
            dueMisses("s", "F " + Looms.works(1000) + " h", "s 1000", 3);
            dueMisses("l, in another line since", farRing(), "l 0", 2);
            Dues.due("of l no jump is done", 1, told('j', "F L0 j0"));
            Dues.due("of d no call is open", 12, told('d', "F c0"));
        });
        Sentences.part(3, "by others it is;", () -> {
            dueMisses("h", "F n n n n n n n n h", "h 1", 2);
            dueMisses("r", "F n n n n n n n n r", "r 1", 2);
            dueMisses("u", "F n n n n n n n n t1", "u 1", 2);
            dueMisses("the thousandth", "F " + Looms.works(999) + " n n h", "h 1000", 4);
        });
        Sentences.part(3, "of 'f' 'x' comes ahead of 'd'.", () -> {
            due("F d1 f1 h", "x 25", zerosAnd(12, 1));
            due("F d1 f1 h", "x 25", zerosAnd(12, -1));
            due("F d1 f1 h F s2,5 h", "d 25", zerosAnd(12, 1));
            due("F d1 f1 h", "d 25", zerosAnd(12, 0));
        });
    }

    private static void dueMisses(String what, String text, String ending, int misses, int... fed) {
        due(text, ending, fed);
        Dues.due("misses of " + what, misses, told('m', text, fed));
    }

    /** A jump at 0 to one at 32, and that back. */
    private static String farRing() {
        StringBuilder text = new StringBuilder("F L0 j1");
        for (int many = 3; many < 32; many++) text.append(" n");
        return text.append(" L1 j0").toString();
    }

    private static void worksAndJumps() {
        Sentences.part(3, "Works are all operations but 'n', 'z', 'y' and 'j';", () -> {
            due("F s1,1 h", "h 2");
            due("F a1,1 b1,1 m1,1 d1 h", "h 5");
            due("F p1 h", "0 h 2");
            due("F n n z1,0 L0 y1,1 z2,1 n L1 j2 L2 h", "h 1");
            due("F w1,0 h", "h 2");
            due("F c1 h F r", "h 3");
            due("F s1,1 f1 h F r", "h 4");
            due("F t1", "u 1");
            due("F L0 t1 L1 h G0,1,1", "h 2");
        });
        Sentences.part(3, "Jumps are 'z', 'y' and 'j';", () -> {
            Dues.due("each", 3, told('j', "F z1,0 L0 y1,1 L1 j2 L2 h"));
            Dues.due("no others", 0, told('j', "F n s1,1 a1,1 w1,0 c1 f1 t1 F r"));
        });
        Sentences.part(3, "they are taken, if they go where they tell.", () -> {
            Dues.due("z by 0", 1, told('t', "F z1,0 p1 L0 h"));
            Dues.due("z by 1", 0, told('t', "F s1,1 z1,0 p1 L0 h"));
            Dues.due("y by 0", 0, told('t', "F y1,0 p1 L0 h"));
            Dues.due("y by -1", 1, told('t', "F d1 y1,0 p1 L0 h", -1));
            Dues.due("j", 1, told('t', "F j0 p1 L0 h"));
            Dues.due("all are done", 1, told('j', "F y1,0 p1 L0 h"));
        });
    }

    private static void limits() {
        Sentences.part(3, "as a work would be the 1001st one, the run ends by 's',", () -> {
            due("F " + Looms.works(999) + " h", "h 1000");
            due("F " + Looms.works(999) + " r", "r 1000");
            due("F " + Looms.works(999) + " t7", "u 1000");
            due("F " + Looms.works(1000) + " h", "s 1000");
            due("F " + Looms.works(1000) + " t7", "s 1000");
            Dues.due("p is not done", 1000, Looms.linked("F L0 p1 j0").run(0));
            Dues.due("others are done", 1000, told('j', "F L0 p1 j0"));
        });
        Sentences.part(3, "ahead of 'd' and 'x',", () -> {
            due("F s7,9 " + Looms.works(999) + " f7 h", "s 1000");
            due("F s7,9 " + Looms.works(998) + " f7 h", "x 999");
            due("F d1 y1,0 c0 h L0 " + Looms.works(975) + " c0 h", "s 1000", zerosAnd(12, 1));
            due("F d1 y1,0 c0 h L0 " + Looms.works(974) + " c0 h", "d 999", zerosAnd(12, 1));
            due("F d1 y1,0 c0 h L0 s7,9 " + Looms.works(974) + " f7 h", "s 1000", zerosAnd(12, 1));
            due("F d1 y1,0 c0 h L0 s7,9 " + Looms.works(973) + " f7 h", "x 999", zerosAnd(12, 1));
        });
        Sentences.part(3, "and as one of the others, by its address, would be done a second time without a work between, by 'l'.", () -> {
            due("F L0 j0", "l 0");
            due("F L0 n j0", "l 0");
            due("F L0 z1,0", "l 0");
            due("F s1,1 L0 y1,0", "l 1");
            due("F L0 j1 L1 j2 L2 j0", "l 0");
            Dues.due("each once", 3, told('j', "F L0 j1 L1 j2 L2 j0"));
            due("F L0 d1 z1,0 h", "h 4", 0, 0, 5);
            due("F L0 n n j1 p1 L1 d1 z1,0 h", "h 4", 0, 0, 5);
            due("F c1 c1 h F n n r", "h 5");
            due("F " + Looms.works(1000) + " L0 j0", "l 1000");
            due("F " + Looms.works(1000) + " L0 j1 L1 h", "s 1000");
        });
    }

    private static void lines() {
        Sentences.part(3, "Each operation looks up the line of its first byte, its address by 8, cut;", () -> {
            Dues.due("0 to 7", 1, told('m', "F n n n n n n n h"));
            Dues.due("8", 2, told('m', "F n n n n n n n n h"));
            Dues.due("15 and 16", 3, told('m', "F n n n n n n n n n n n n n n n n h"));
            Dues.due("what follows is not looked up", 2, told('m', "F n n n n n n n j0 n n n n n n L0 h"));
            Dues.due("first byte at 7", 2, told('m', "F n n n n n n n s1,1 h"));
            Dues.due("first byte at 6", 2, told('m', "F n n n n n n s1,1 s1,1 h"));
        });
        Sentences.part(3, "that is a miss, if of the lines that are the same by 4, as rests, another one, or none, was looked up last.", () -> {
            Dues.due("two lines", 2, misses(0, 8));
            Dues.due("four lines", 4, misses(0, 8, 16, 24));
            Dues.due("the lines 0 and 4", 1000, misses(0, 32));
            Dues.due("the lines 0 and 8", 1000, misses(0, 64));
            Dues.due("the lines 1 and 4", 3, misses(8, 32));
            Dues.due("the lines 3 and 7", 1001, misses(24, 56));
            Dues.due("five lines", 403, misses(0, 8, 16, 24, 32));
            Dues.due("eight lines", 1000, misses(0, 8, 16, 24, 32, 40, 48, 56));
            Blockloom loom = Looms.linked("F h");
            loom.run(0);
            loom.run(0);
            Dues.due("none was looked up ahead of each run", 1, loom.told('m'));
        });
    }

    /** A ring over the addresses, each with a print and a jump to the next; it begins at 0. */
    private static int misses(int... ring) {
        int[] bytes = new int[72];
        bytes[0] = 80;
        bytes[1] = ring[0] - 2;
        for (int index = 0; index < ring.length; index++) {
            int at = ring[index];
            bytes[at] = 40;
            bytes[at + 1] = 80;
            bytes[at + 2] = ring[(index + 1) % ring.length] - at - 3 & 255;
        }
        Blockloom loom = Looms.code(bytes);
        Dues.due("it goes round", 1000, loom.run(0));
        return loom.told('m');
    }

    private static void promiseFeed() {
        Sentences.promise(17, "Adds a number to read.", () -> due("F d1 d2 d3 p1 p2 p3 h", "5 6 0 h 7", 5, 6));
        Sentences.promise(17, "`number`: any one", () -> {
            for (int number : new int[] {0, -1, 256, Integer.MIN_VALUE, Integer.MAX_VALUE}) due("F d1 p1 h", number + " h 3", number);
        });
        Sentences.promise(17, "Returns how many there are.", () -> {
            Blockloom loom = new Blockloom();
            for (int many = 1; many <= 16; many++) Dues.due("feed", many, loom.feed(0));
            loom.clear();
            Dues.due("feed anew", 1, loom.feed(0));
            Looms.draft(loom, "F d1 h");
            loom.link();
            loom.run(0);
            Dues.due("what is read stays", 2, loom.feed(0));
        });
        Sentences.promise(17, "Throws `IllegalStateException` if there are 16", () -> {
            Sentences.refused(IllegalStateException.class, () -> fed(16), loom -> loom.feed(17), loom -> loom.feed(0));
            Dues.due("there are 15", 16, fed(15).feed(16));
            Blockloom loom = fed(16);
            loom.run(0);
            Dues.due("all are read", "1 2 3 4 5 6 7 8 9 10 11 12 13 14 15 16 0", Looms.prints(loom));
        });
    }

    private static Blockloom fed(int many) {
        StringBuilder text = new StringBuilder("F");
        for (int number = 0; number < 17; number++) text.append(" d1 p1");
        Blockloom loom = Looms.linked(text + " h");
        for (int number = 1; number <= many; number++) loom.feed(number);
        return loom;
    }

    private static void promiseClear() {
        Sentences.promise(18, "Takes the numbers to read away.", () -> {
            Blockloom loom = fed(16);
            loom.clear();
            loom.run(0);
            Dues.due("none is read", "0 0 0 0 0 0 0 0 0 0 0 0 0 0 0 0 0", Looms.prints(loom));
            loom.feed(99);
            loom.run(0);
            Dues.due("one is read", "99 0 0 0 0 0 0 0 0 0 0 0 0 0 0 0 0", Looms.prints(loom));
        });
        Sentences.promise(18, "Returns how many there were.", () -> {
            Dues.due("none", 0, new Blockloom().clear());
            for (int many : new int[] {1, 15, 16}) Dues.due("some", many, fed(many).clear());
            Blockloom loom = fed(16);
            loom.clear();
            Dues.due("none then", 0, loom.clear());
        });
    }

    private static void promiseRun() {
        Sentences.promise(19, "Runs an image; numbers are read from the first one on.", () -> {
            Blockloom loom = fed(3);
            for (int round = 0; round < 3; round++) {
                loom.run(0);
                Dues.due("round " + round, "1 2 3 0 0 0 0 0 0 0 0 0 0 0 0 0 0", Looms.prints(loom));
            }
        });
        Sentences.promise(19, "`image`: 0 the old one, 1 the new one", () -> {
            Blockloom loom = Looms.apart("F n n n n n n n n h");
            loom.make(1, false);
            loom.run(0);
            Dues.due("old", 2, loom.told('m'));
            loom.run(1);
            Dues.due("new", 1, loom.told('m'));
        });
        Sentences.promise(19, "Returns how many works were done.", () -> {
            Dues.due("none", 0, Looms.linked("F n").run(0));
            Dues.due("one", 1, Looms.linked("F h").run(0));
            Dues.due("most", 1000, Looms.linked("F L0 p1 j0").run(0));
        });
        Sentences.promise(19, "Throws `IndexOutOfBoundsException` if there is no such image", () -> Sentences.needsImage(Blockloom::run));
        Sentences.promise(19, "Throws `NoSuchElementException` if that image was not made", () -> {
            Sentences.refused(NONE, Blockloom::new, loom -> loom.run(0), loom -> loom.run(1));
            Sentences.refused(NONE, () -> Looms.drafted("F h"), loom -> loom.run(0));
            Sentences.needsNew(loom -> loom.run(1));
        });
    }

    private static void promiseEnd() {
        Sentences.promise(20, "Returns how the last run ended.", () -> {
            String[] texts = {"F h", "F r", "F t1", "F n", "F L0 j0", "F c0", "F s1,9 f1", "F L0 p1 j0"};
            String ends = "hruildxs";
            for (int index = 0; index < texts.length; index++) {
                Blockloom loom = Looms.linked(texts[index]);
                loom.run(0);
                Dues.due(texts[index], ends.charAt(index), loom.end());
            }
        });
        Sentences.promise(20, "Returns as told, '-' if there was none.", () -> {
            Dues.due("new object", '-', new Blockloom().end());
            Blockloom loom = Looms.apart("F h");
            loom.make(1, false);
            loom.isLike();
            loom.isSound();
            Dues.due("none", '-', loom.end());
            Dues.refused("a refused one", NONE, () -> Looms.drafted("F h").run(0));
            loom.train(1);
            Dues.due("by training", 'h', loom.end());
        });
    }

    private static void promisePrints() {
        Sentences.promise(21, "Returns how many numbers the last run printed.", () -> {
            Blockloom loom = Looms.linked("F p1 p1 p1 h");
            loom.run(0);
            Dues.due("three", 3, loom.prints());
            loom.poke(0, 83);
            Dues.due("they stay", 3, loom.prints());
            loom.run(0);
            Dues.due("none", 0, loom.prints());
        });
        Sentences.promise(21, "Returns how many.", () -> {
            Dues.due("no run", 0, new Blockloom().prints());
            Blockloom loom = Looms.linked("F L0 p1 j0");
            loom.run(0);
            Dues.due("most", 1000, loom.prints());
        });
        Sentences.promise(22, "Returns a number that the last run printed.", () -> {
            Blockloom loom = Looms.linked("F p1 s1,255 p1 h");
            loom.run(0);
            Dues.due("numbers", "0 255", loom.printAt(0) + " " + loom.printAt(1));
        });
        Sentences.promise(22, "`index`: its place, from 0", () -> {
            Blockloom loom = Looms.linked("F s2,1 L0 p1 a1,2 p1 a1,2 p1 j0");
            loom.run(0);
            Dues.due("so many", 599, loom.prints());
            for (int place : new int[] {0, 1, 2, 3, 6, 598}) Dues.due("place " + place, place - place / 3, loom.printAt(place));
        });
        Sentences.promise(22, "Returns the number.", () -> {
            Blockloom loom = Looms.linked("F d1 p1 d1 p1 h");
            loom.feed(Integer.MIN_VALUE);
            loom.feed(Integer.MAX_VALUE);
            loom.run(0);
            Dues.due("least", Integer.MIN_VALUE, loom.printAt(0));
            Dues.due("most", Integer.MAX_VALUE, loom.printAt(1));
        });
        Sentences.promise(22, "Throws `NoSuchElementException` if there is none", () -> {
            Sentences.refused(NONE, Blockloom::new, loom -> loom.printAt(0));
            for (int far : FAR) Sentences.refused(NONE, Looms::full, loom -> loom.printAt(far));
            Sentences.refused(NONE, Looms::full, loom -> loom.printAt(loom.prints()));
            Sentences.refused(NONE, () -> {
                Blockloom loom = Looms.linked("F p1 p1 h");
                loom.run(0);
                loom.poke(1, 83);
                loom.run(0);
                return loom;
            }, loom -> loom.printAt(1));
            Blockloom loom = Looms.linked("F L0 p1 j0");
            loom.run(0);
            Dues.due("the last one", 0, loom.printAt(999));
            Dues.refused("none behind it", NONE, () -> loom.printAt(1000));
        });
    }

    private static void promiseTold() {
        Sentences.promise(23, "Tells something of the last run.", () -> {
            Blockloom loom = Looms.linked("F c1 z1,0 L0 h F y1,0 c2 L0 r F r");
            loom.run(0);
            loom.poke(0, 83);
            Dues.due("it stays", "2 1 2 2", told(loom));
            loom.run(0);
            Dues.due("of the last one", "0 0 1 0", told(loom));
        });
        Sentences.promise(23, "`what`: 'j' how many jumps were done, 't' how many of these were taken, 'm' how many misses there were, "
            + "'d' how many calls were open at most", () -> {
                Blockloom loom = Looms.linked("F c1 z1,0 L0 h F y1,0 c2 L0 r F r");
                loom.run(0);
                Dues.due("of two calls", "2 1 2 2", told(loom));
                Blockloom rounds = Looms.linked("F L0 p1 j0");
                rounds.run(0);
                Dues.due("of 1000 rounds", "1000 1000 1 0", told(rounds));
            });
        Sentences.promise(23, "Returns that, 0 if there was none.", () -> {
            Dues.due("no run", "0 0 0 0", told(new Blockloom()));
            Blockloom loom = Looms.linked("F n");
            loom.run(0);
            Dues.due("nothing in it", "0 0 1 0", told(loom));
        });
        Sentences.promise(23, "Throws `IllegalArgumentException` if there is no such thing", () -> {
            Sentences.needsThing("jtmd", (loom, what) -> loom.told(what));
            Sentences.refused(ARGUMENT, Blockloom::new, loom -> loom.told('x'));
        });
    }

    private static String told(Blockloom loom) {
        return loom.told('j') + " " + loom.told('t') + " " + loom.told('m') + " " + loom.told('d');
    }
}
