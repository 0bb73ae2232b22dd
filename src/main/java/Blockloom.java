import java.util.Arrays;
import java.util.NoSuchElementException;

/** Links images, takes them apart, lays them out by what they did, makes new ones, and runs both. */
public final class Blockloom {
    private static final int FUNCTIONS = 8;
    private static final int OPS = 40;
    private static final int LABELS = 10;
    private static final int REGISTERS = 8;
    private static final int TABLES = 4;
    private static final int TABLE_LABELS = 5;
    private static final int DRAFT_GUARDS = 8;
    private static final int GUARDS = 24;
    private static final int NUMBERS = 16;
    /** The most that a draft links to: all operations with long ways. */
    private static final int BYTES = 960;
    private static final int NEW_BYTES = 600;
    private static final int PIECES = 16;
    /** A switch has the most slots by bytes, 6 by 2 of them; others have 2 by 2, or 1 by 1. */
    private static final int SLOTS = 2888;
    private static final int EDGES = SLOTS + BYTES;
    private static final int OPEN_CALLS = 12;
    private static final int WORKS = 1000;
    private static final int LINES = 4;
    private static final int MOST_COUNTED = 9999;
    private static final int SMALL = 8;
    private static final int ROW_BYTES = 60;
    private static final int MANY = 2000000;
    private static final int ENDLESS = 1000000000;
    private static final int[] LENGTHS = {1, 2, 2, 2, 2, 1, 2, 2, 3, 3, 0, 3, 2, 1, 1, 1};
    private static final int[] JUMP_LENGTHS = {2, 3, 1, 1, 0, 0, 0, 0};
    private static final char[] SIGNS =
        {'n', 's', 'a', 'b', 'm', 'p', 'z', 'y', 'z', 'y', '-', 'c', 'w', 't', 'd', 'f'};
    private static final char[] JUMP_SIGNS = {'j', 'j', 'r', 'h', '-', '-', '-', '-'};
    private static final String ALL_SIGNS = "sabmpdzyjwcftrhn";
    private static final String REGISTER_SIGNS = "sabmpdzywft";
    private static final String END_SIGNS = "zyjwtrh";

    private final Draft draft = new Draft();
    private final int[] numbers = new int[NUMBERS];
    private int numberCount = 0;
    private Image oldImage = new Image();
    private Image newImage = new Image();
    private final Machine lastRun = new Machine();
    private final Machine oldTwin = new Machine();
    private final Machine newTwin = new Machine();
    private final Checker checker = new Checker();
    private final Blocks parts = new Blocks();
    private final Profile profile = new Profile(parts);
    private final Flows flows = new Flows(parts, profile);
    private final Orders orders = new Orders(parts, profile);
    private final Places places = new Places(parts, profile);
    private final Alterer alterer = new Alterer(parts);
    private final Maker maker = new Maker(parts, profile, orders, places);
    private boolean isApart = false;
    private char faultSign = '-';
    private int faultAddress = 0;

    public Blockloom() {
    }

    // draft

    public int function() throws IllegalStateException {
        if (draft.functionCount >= FUNCTIONS) throw new IllegalStateException("there are 8 functions");
        return draft.beginFunction();
    }

    public int op(char sign, int register, int number) throws IllegalArgumentException, IllegalStateException {
        if (ALL_SIGNS.indexOf(sign) < 0) throw new IllegalArgumentException("no such sign");
        if (REGISTER_SIGNS.indexOf(sign) >= 0 && isOutside(register, REGISTERS)) {
            throw new IllegalArgumentException("no such register");
        }
        if (isOutside(number, numbersOf(sign)) && numbersOf(sign) > 0) {
            throw new IllegalArgumentException("number out of range");
        }
        if (draft.functionCount == 0 || draft.hasAllOps()) {
            throw new IllegalStateException("no function, or 40 operations");
        }
        return draft.addOp(sign, register, number);
    }

    public int label(int label) throws IllegalArgumentException, IllegalStateException {
        if (isOutside(label, LABELS)) throw new IllegalArgumentException("no such label");
        if (draft.functionCount == 0 || draft.hasLabel(draft.functionCount - 1, label)) {
            throw new IllegalStateException("no function, or the label stands");
        }
        return draft.addLabel(label);
    }

    public int table(int table, int label) throws IllegalArgumentException, IllegalStateException {
        if (isOutside(table, TABLES) || isOutside(label, LABELS)) {
            throw new IllegalArgumentException("no such table or label");
        }
        if (draft.functionCount == 0 || !draft.takesTable(table)) {
            throw new IllegalStateException("no function, or the table is of another, or full");
        }
        return draft.addToTable(table, label);
    }

    public int guard(int from, int to, int at) throws IllegalArgumentException, IllegalStateException {
        if (isOutside(from, LABELS) || isOutside(to, LABELS) || isOutside(at, LABELS)) {
            throw new IllegalArgumentException("no such label");
        }
        if (draft.functionCount == 0 || draft.guardCount >= DRAFT_GUARDS) {
            throw new IllegalStateException("no function, or 8 guards");
        }
        return draft.addGuard(from, to, at);
    }

    public int wipe() {
        int had = draft.functionCount;
        draft.empty();
        return had;
    }

    public int link() throws UnsupportedOperationException {
        if (!draft.isLinkable()) throw new UnsupportedOperationException("the draft can not be linked");
        draft.writeTo(oldImage);
        newImage.empty();
        leaveApart();
        return oldImage.bytes;
    }

    // images

    public int size(int image) throws IndexOutOfBoundsException {
        return imageOf(image).bytes;
    }

    public int byteAt(int image, int address) throws IndexOutOfBoundsException, NoSuchElementException {
        Image which = imageOf(image);
        if (isOutside(address, which.bytes)) throw new NoSuchElementException("no such address");
        return which.code[address];
    }

    public int poke(int address, int value) throws NoSuchElementException, IllegalArgumentException {
        if (isOutside(address, oldImage.bytes)) throw new NoSuchElementException("no such address");
        if (isOutside(value, 256)) throw new IllegalArgumentException("no byte");
        int former = oldImage.code[address];
        oldImage.code[address] = value;
        newImage.empty();
        leaveApart();
        return former;
    }

    public int begins(int image, int function) throws IndexOutOfBoundsException, NoSuchElementException {
        Image which = imageOf(image);
        if (isOutside(function, which.functionCount)) throw new NoSuchElementException("no such function");
        return which.begin[function];
    }

    public int piece(int image, int index, char what)
            throws IndexOutOfBoundsException, NoSuchElementException, IllegalArgumentException {
        Image which = imageOf(image);
        if (isOutside(index, which.pieceCount)) throw new NoSuchElementException("no such piece");
        if (what == 'f') return which.pieceFunction[index];
        if (what == 'b') return which.pieceBegin[index];
        if (what == 'e') return which.pieceEnd[index];
        throw new IllegalArgumentException("no such thing");
    }

    public int tableAt(int image, int table, int index) throws IndexOutOfBoundsException, NoSuchElementException {
        Image which = imageOf(image);
        if (isOutside(table, TABLES) || isOutside(index, which.tableSize[table])) {
            throw new NoSuchElementException("no such address of a table");
        }
        return which.tables[table * TABLE_LABELS + index];
    }

    public int guardAt(int image, int index, char what)
            throws IndexOutOfBoundsException, NoSuchElementException, IllegalArgumentException {
        Image which = imageOf(image);
        if (isOutside(index, which.guardCount)) throw new NoSuchElementException("no such guard");
        if (what == 'f') return which.guardFrom[index];
        if (what == 'u') return which.guardTo[index];
        if (what == 'a') return which.guardTarget[index];
        throw new IllegalArgumentException("no such thing");
    }

    public int adopt() throws NoSuchElementException {
        if (newImage.bytes == 0) throw new NoSuchElementException("no new image");
        Image former = oldImage;
        oldImage = newImage;
        newImage = former;
        newImage.empty();
        leaveApart();
        return oldImage.bytes;
    }

    // runs

    public int feed(int number) throws IllegalStateException {
        if (numberCount >= NUMBERS) throw new IllegalStateException("there are 16 numbers");
        numbers[numberCount] = number;
        numberCount++;
        return numberCount;
    }

    public int clear() {
        int were = numberCount;
        numberCount = 0;
        return were;
    }

    public int run(int image) throws IndexOutOfBoundsException, NoSuchElementException {
        Image which = imageOf(image);
        if (which.bytes == 0) throw new NoSuchElementException("not made");
        profile.period = 0;
        lastRun.execute(which, numbers, numberCount, profile);
        return lastRun.works;
    }

    public char end() {
        return lastRun.ending;
    }

    public int prints() {
        return lastRun.printCount;
    }

    public int printAt(int index) throws NoSuchElementException {
        if (isOutside(index, lastRun.printCount)) throw new NoSuchElementException("no such number");
        return lastRun.printed[index];
    }

    public int told(char what) throws IllegalArgumentException {
        if (what == 'j') return lastRun.jumps;
        if (what == 't') return lastRun.taken;
        if (what == 'm') return lastRun.misses;
        if (what == 'd') return lastRun.deepest;
        throw new IllegalArgumentException("no such thing");
    }

    // apart

    public int apart() throws NoSuchElementException {
        if (oldImage.bytes == 0) throw new NoSuchElementException("no old image");
        leaveApart();
        if (!checker.isFaultless(oldImage)) {
            faultSign = checker.sign;
            faultAddress = checker.address;
            return -1;
        }
        parts.read(oldImage, checker);
        profile.reset();
        orders.readAll();
        places.reset();
        isApart = true;
        return parts.total;
    }

    public char fault() {
        return faultSign;
    }

    public int faultAt() throws NoSuchElementException {
        if (faultSign == '-') throw new NoSuchElementException("no fault");
        return faultAddress;
    }

    public int blocks() throws UnsupportedOperationException {
        checkApart();
        return parts.total;
    }

    public boolean isThere(int block) throws UnsupportedOperationException, IndexOutOfBoundsException {
        checkApart();
        if (isOutside(block, parts.total)) throw new IndexOutOfBoundsException("no such block");
        return parts.there[block];
    }

    public int block(int block, char what)
            throws UnsupportedOperationException, IndexOutOfBoundsException, IllegalArgumentException {
        checkBlock(block);
        if (what == 'f') return parts.owner[block];
        if (what == 'b') return parts.begin[block];
        if (what == 'o') return parts.opCount[block];
        if (what == 's') return parts.slotCount[block];
        if (what == 'r') return parts.register[block];
        if (what == 'g') return parts.guard[block];
        throw new IllegalArgumentException("no such thing");
    }

    public char endOf(int block) throws UnsupportedOperationException, IndexOutOfBoundsException {
        checkBlock(block);
        return parts.ending[block];
    }

    public char opAt(int block, int index)
            throws UnsupportedOperationException, IndexOutOfBoundsException, NoSuchElementException {
        checkBlock(block);
        if (isOutside(index, parts.opCount[block])) throw new NoSuchElementException("no such operation");
        return oldImage.signAt(parts.opAddress[parts.opStart[block] + index]);
    }

    public int successor(int block, int slot)
            throws UnsupportedOperationException, IndexOutOfBoundsException, NoSuchElementException {
        checkBlock(block);
        if (isOutside(slot, parts.slotCount[block])) throw new NoSuchElementException("no such slot");
        return parts.target[parts.slotStart[block] + slot];
    }

    // profiles

    public int train(int period) throws UnsupportedOperationException, IllegalArgumentException {
        checkApart();
        if (period < 1 || period > 9) throw new IllegalArgumentException("period out of range");
        profile.period = period;
        profile.events = 0;
        lastRun.execute(oldImage, numbers, numberCount, profile);
        profile.period = 0;
        return profile.events;
    }

    public int count(int block, int slot, int number) throws UnsupportedOperationException,
            IndexOutOfBoundsException, NoSuchElementException, IllegalArgumentException {
        checkSlot(block, slot);
        if (isOutside(number, MOST_COUNTED + 1)) throw new IllegalArgumentException("count out of range");
        int former = profile.countOf(block, slot);
        profile.setCount(block, slot, number);
        return former;
    }

    public int counted(int block, int slot)
            throws UnsupportedOperationException, IndexOutOfBoundsException, NoSuchElementException {
        checkSlot(block, slot);
        return profile.countOf(block, slot);
    }

    public int letFlow(int function) throws UnsupportedOperationException, IndexOutOfBoundsException {
        checkFunction(function);
        orders.isOrdered[function] = false;
        return flows.settle(function);
    }

    public int flow(int block, int slot)
            throws UnsupportedOperationException, IndexOutOfBoundsException, NoSuchElementException {
        checkSlot(block, slot);
        return profile.flowOf(block, slot);
    }

    public int weight(int block) throws UnsupportedOperationException, IndexOutOfBoundsException {
        checkBlock(block);
        profile.fillWeights();
        return profile.weights[block];
    }

    // altering

    public int thread() throws UnsupportedOperationException {
        checkApart();
        int changed = alterer.threadAll();
        forgetFlows();
        return changed;
    }

    public int drop() throws UnsupportedOperationException {
        checkApart();
        int taken = alterer.dropAll();
        forgetFlows();
        return taken;
    }

    public int fold() throws UnsupportedOperationException {
        checkApart();
        int folded = alterer.foldAll();
        forgetFlows();
        return folded;
    }

    public int same(int function) throws UnsupportedOperationException, IndexOutOfBoundsException {
        checkApart();
        if (isOutside(function, oldImage.functionCount)) throw new IndexOutOfBoundsException("no such function");
        return parts.same[function];
    }

    // orders

    public int order(int function) throws UnsupportedOperationException, IndexOutOfBoundsException {
        checkFunction(function);
        orders.settle(function);
        return orders.gainOf(function);
    }

    public int orderAt(int function, int index)
            throws UnsupportedOperationException, IndexOutOfBoundsException, NoSuchElementException {
        checkFunction(function);
        if (isOutside(index, orders.length[function])) throw new NoSuchElementException("no such place");
        return orders.row[orders.start[function] + index];
    }

    public int gain(int function) throws UnsupportedOperationException, IndexOutOfBoundsException {
        checkFunction(function);
        return orders.gainOf(function);
    }

    public int place() throws UnsupportedOperationException {
        checkApart();
        return places.settle();
    }

    public int placed(int index) throws UnsupportedOperationException, NoSuchElementException {
        checkApart();
        if (isOutside(index, places.held)) throw new NoSuchElementException("no such place");
        return places.sequence[index];
    }

    // making

    public int make(int aligning, boolean isSplit)
            throws UnsupportedOperationException, IllegalArgumentException, IllegalStateException {
        checkApart();
        if (aligning != 1 && aligning != 2 && aligning != 4 && aligning != 8) {
            throw new IllegalArgumentException("no such aligning");
        }
        int bytes = maker.layOut(aligning, isSplit);
        if (bytes > NEW_BYTES || maker.guardRows() > GUARDS) {
            throw new IllegalStateException("too many bytes or guards");
        }
        maker.writeTo(newImage);
        return newImage.bytes;
    }

    public int longs(int image) throws IndexOutOfBoundsException, NoSuchElementException {
        Image which = imageOf(image);
        if (which.bytes == 0) throw new NoSuchElementException("not made");
        return which.longJumps();
    }

    public boolean isLike() throws NoSuchElementException {
        if (newImage.bytes == 0) throw new NoSuchElementException("no new image");
        return doTheSame();
    }

    // figures

    public float hotShare() throws UnsupportedOperationException {
        checkApart();
        profile.fillWeights();
        int present = 0;
        int hot = 0;
        for (int block = 0; block < parts.total; block++) {
            if (parts.there[block]) {
                present++;
                if (profile.weights[block] > 0) hot++;
            }
        }
        return present == 0 ? 0.0f : (float) hot / (float) present;
    }

    public double meanBytes() throws NoSuchElementException {
        if (oldImage.bytes == 0 || oldImage.functionCount == 0) throw new NoSuchElementException("no old image");
        int bytes = 0;
        for (int index = 0; index < oldImage.pieceCount; index++) {
            bytes += oldImage.pieceEnd[index] - oldImage.pieceBegin[index];
        }
        return (double) bytes / (double) oldImage.functionCount;
    }

    public long checksum() {
        long sum = oldImage.addedTo(7L);
        sum = newImage.addedTo(sum);
        sum = sum * 31 + draft.functionCount;
        sum = sum * 31 + numberCount;
        sum = sum * 31 + lastRun.ending;
        sum = sum * 31 + faultSign;
        return isApart ? profile.addedTo(sum) : sum;
    }

    public boolean isSound() {
        if (isApart && !(profile.conserves() && orders.areBest())) return false;
        if (newImage.bytes == 0) return true;
        return checker.isFaultless(newImage) && doTheSame();
    }

    // what the calls of the face share

    private static boolean isOutside(int number, int bound) {
        return number < 0 || number >= bound;
    }

    private static boolean isEndSign(char sign) {
        return END_SIGNS.indexOf(sign) >= 0;
    }

    private static boolean isJump(char sign) {
        return sign == 'z' || sign == 'y' || sign == 'j';
    }

    /** Returns how many numbers the operation of a sign may have, 0 if it has none. */
    private static int numbersOf(char sign) {
        if (sign == 's') return 256;
        if (sign == 'a' || sign == 'b' || sign == 'm') return REGISTERS;
        if (isJump(sign)) return LABELS;
        if (sign == 'w') return TABLES;
        return sign == 'c' ? FUNCTIONS : 0;
    }

    private Image imageOf(int image) throws IndexOutOfBoundsException {
        if (isOutside(image, 2)) throw new IndexOutOfBoundsException("no such image");
        return image == 0 ? oldImage : newImage;
    }

    private void leaveApart() {
        isApart = false;
        faultSign = '-';
        faultAddress = 0;
    }

    private void forgetFlows() {
        profile.forgetFlows();
        orders.readAll();
        places.reset();
    }

    private boolean doTheSame() {
        profile.period = 0;
        oldTwin.execute(oldImage, numbers, numberCount, profile);
        newTwin.execute(newImage, numbers, numberCount, profile);
        return oldTwin.didLike(newTwin);
    }

    private void checkApart() throws UnsupportedOperationException {
        if (!isApart) throw new UnsupportedOperationException("not apart");
    }

    private void checkBlock(int block) throws UnsupportedOperationException, IndexOutOfBoundsException {
        checkApart();
        if (isOutside(block, parts.total) || !parts.there[block]) {
            throw new IndexOutOfBoundsException("no such block");
        }
    }

    private void checkSlot(int block, int slot)
            throws UnsupportedOperationException, IndexOutOfBoundsException, NoSuchElementException {
        checkBlock(block);
        boolean isWay = slot == -1 && parts.wayIn[block];
        if (!isWay && isOutside(slot, parts.slotCount[block])) throw new NoSuchElementException("no such slot");
    }

    private void checkFunction(int function) throws UnsupportedOperationException, IndexOutOfBoundsException {
        checkApart();
        if (isOutside(function, oldImage.functionCount) || !parts.hasBlocks(function)) {
            throw new IndexOutOfBoundsException("no such function, or without blocks");
        }
    }

    /** The functions, labels, tables and guards that are to be linked. */
    private static final class Draft {
        private int functionCount = 0;
        private final int[] opCounts = new int[FUNCTIONS];
        private final char[] signs = new char[FUNCTIONS * OPS];
        private final int[] registers = new int[FUNCTIONS * OPS];
        private final int[] operands = new int[FUNCTIONS * OPS];
        private final int[] labels = new int[FUNCTIONS * LABELS];
        private final int[] tableOwner = new int[TABLES];
        private final int[] tableSize = new int[TABLES];
        private final int[] tableLabels = new int[TABLES * TABLE_LABELS];
        private int guardCount = 0;
        private final int[] guardOwner = new int[DRAFT_GUARDS];
        private final int[] guardFrom = new int[DRAFT_GUARDS];
        private final int[] guardTo = new int[DRAFT_GUARDS];
        private final int[] guardTarget = new int[DRAFT_GUARDS];
        private final int[] addresses = new int[FUNCTIONS * (OPS + 1)];

        private Draft() {
            Arrays.fill(labels, -1);
            Arrays.fill(tableOwner, -1);
        }

        private void empty() {
            functionCount = 0;
            guardCount = 0;
            Arrays.fill(opCounts, 0);
            Arrays.fill(labels, -1);
            Arrays.fill(tableOwner, -1);
            Arrays.fill(tableSize, 0);
        }

        private int beginFunction() {
            functionCount++;
            return functionCount - 1;
        }

        private boolean hasAllOps() {
            return opCounts[functionCount - 1] >= OPS;
        }

        private int addOp(char sign, int register, int number) {
            int function = functionCount - 1;
            int index = function * OPS + opCounts[function];
            signs[index] = sign;
            registers[index] = register;
            operands[index] = number;
            opCounts[function]++;
            return opCounts[function];
        }

        private boolean hasLabel(int function, int label) {
            return labels[function * LABELS + label] >= 0;
        }

        private int addLabel(int label) {
            int function = functionCount - 1;
            labels[function * LABELS + label] = opCounts[function];
            return opCounts[function];
        }

        private boolean takesTable(int table) {
            boolean isOurs = tableOwner[table] < 0 || tableOwner[table] == functionCount - 1;
            return isOurs && tableSize[table] < TABLE_LABELS;
        }

        private int addToTable(int table, int label) {
            tableOwner[table] = functionCount - 1;
            tableLabels[table * TABLE_LABELS + tableSize[table]] = label;
            tableSize[table]++;
            return tableSize[table];
        }

        private int addGuard(int from, int to, int at) {
            guardOwner[guardCount] = functionCount - 1;
            guardFrom[guardCount] = from;
            guardTo[guardCount] = to;
            guardTarget[guardCount] = at;
            guardCount++;
            return guardCount;
        }

        private boolean isLinkable() {
            if (functionCount == 0) return false;
            for (int function = 0; function < functionCount; function++) {
                if (opCounts[function] == 0 || !opsAreLinkable(function)) return false;
            }
            return tablesAreLinkable() && guardsAreLinkable();
        }

        private boolean opsAreLinkable(int function) {
            for (int place = 0; place < opCounts[function]; place++) {
                char sign = signs[function * OPS + place];
                int number = operands[function * OPS + place];
                if (isJump(sign) && !hasLabel(function, number)) return false;
                if (sign == 'c' && number >= functionCount) return false;
            }
            return true;
        }

        private boolean tablesAreLinkable() {
            for (int table = 0; table < TABLES; table++) {
                for (int index = 0; index < tableSize[table]; index++) {
                    if (!hasLabel(tableOwner[table], tableLabels[table * TABLE_LABELS + index])) return false;
                }
            }
            return true;
        }

        private boolean guardsAreLinkable() {
            for (int index = 0; index < guardCount; index++) {
                int function = guardOwner[index];
                if (!hasLabel(function, guardFrom[index]) || !hasLabel(function, guardTo[index])
                        || !hasLabel(function, guardTarget[index])) {
                    return false;
                }
            }
            return true;
        }

        private static int lengthOf(char sign) {
            if (isJump(sign) || sign == 'c') return 3;
            return sign == 's' || sign == 'a' || sign == 'b' || sign == 'm' || sign == 'w' ? 2 : 1;
        }

        private void writeTo(Image image) {
            image.empty();
            findAddresses();
            for (int function = 0; function < functionCount; function++) {
                image.begin[function] = addresses[function * (OPS + 1)];
                for (int place = 0; place < opCounts[function]; place++) writeOp(image, function, place);
                image.addPiece(function, image.begin[function], image.bytes);
            }
            image.functionCount = functionCount;
            writeTables(image);
            for (int index = 0; index < guardCount; index++) {
                int function = guardOwner[index];
                image.addGuard(addressOf(function, guardFrom[index]), addressOf(function, guardTo[index]),
                    addressOf(function, guardTarget[index]));
            }
        }

        private void findAddresses() {
            int address = 0;
            for (int function = 0; function < functionCount; function++) {
                for (int place = 0; place < opCounts[function]; place++) {
                    addresses[function * (OPS + 1) + place] = address;
                    address += lengthOf(signs[function * OPS + place]);
                }
                addresses[function * (OPS + 1) + opCounts[function]] = address;
            }
        }

        private int addressOf(int function, int label) {
            return addresses[function * (OPS + 1) + labels[function * LABELS + label]];
        }

        private void writeOp(Image image, int function, int place) {
            int index = function * OPS + place;
            char sign = signs[index];
            int number = operands[index];
            if (isJump(sign)) {
                image.putLongJump(sign, registers[index], addressOf(function, number));
            } else if (sign == 'c') {
                image.putLongWay(Image.headOf('c', 0), addresses[number * (OPS + 1)]);
            } else {
                image.put(Image.headOf(sign, registers[index]));
                if (lengthOf(sign) == 2) image.put(number);
            }
        }

        private void writeTables(Image image) {
            for (int table = 0; table < TABLES; table++) {
                for (int index = 0; index < tableSize[table]; index++) {
                    int label = tableLabels[table * TABLE_LABELS + index];
                    image.tables[table * TABLE_LABELS + index] = addressOf(tableOwner[table], label);
                }
                image.tableSize[table] = tableSize[table];
            }
        }
    }

    /** An image of bytes; it is made if it has bytes. */
    private static final class Image {
        private final int[] code = new int[BYTES];
        private int bytes = 0;
        private int functionCount = 0;
        private final int[] begin = new int[FUNCTIONS];
        private int pieceCount = 0;
        private final int[] pieceFunction = new int[PIECES];
        private final int[] pieceBegin = new int[PIECES];
        private final int[] pieceEnd = new int[PIECES];
        private final int[] tableSize = new int[TABLES];
        private final int[] tables = new int[TABLES * TABLE_LABELS];
        private int guardCount = 0;
        private final int[] guardFrom = new int[GUARDS];
        private final int[] guardTo = new int[GUARDS];
        private final int[] guardTarget = new int[GUARDS];

        private Image() {
        }

        private void empty() {
            bytes = 0;
            functionCount = 0;
            pieceCount = 0;
            guardCount = 0;
            Arrays.fill(tableSize, 0);
        }

        private void addPiece(int function, int from, int to) {
            if (pieceCount >= PIECES) return;
            pieceFunction[pieceCount] = function;
            pieceBegin[pieceCount] = from;
            pieceEnd[pieceCount] = to;
            pieceCount++;
        }

        private void addGuard(int from, int to, int at) {
            if (guardCount >= GUARDS) return;
            guardFrom[guardCount] = from;
            guardTo[guardCount] = to;
            guardTarget[guardCount] = at;
            guardCount++;
        }

        private void put(int value) {
            if (bytes >= BYTES) return;
            code[bytes] = value & 255;
            bytes++;
        }

        private void putLongWay(int head, int to) {
            int way = to - (bytes + 3);
            put(head);
            put(way >> 8);
            put(way);
        }

        private void putShortWay(int head, int to) {
            int way = to - (bytes + 2);
            put(head);
            put(way);
        }

        private void putLongJump(char sign, int register, int to) {
            if (sign == 'z') putLongWay(64 + register, to);
            else if (sign == 'y') putLongWay(72 + register, to);
            else putLongWay(81, to);
        }

        private void putShortJump(char sign, int register, int to) {
            if (sign == 'z') putShortWay(48 + register, to);
            else if (sign == 'y') putShortWay(56 + register, to);
            else putShortWay(80, to);
        }

        /** Returns the first byte of an operation that is no jump. */
        private static int headOf(char sign, int register) {
            if (sign == 'r') return 82;
            if (sign == 'h') return 83;
            if (sign == 'c') return 88;
            if (sign == 'n') return 0;
            for (int kind = 0; kind < SIGNS.length; kind++) {
                if (SIGNS[kind] == sign) return kind * 8 + register;
            }
            return 0;
        }

        /** Returns how many bytes the operation at an address has, 0 if there is none. */
        private int lengthAt(int address) {
            if (isOutside(address, bytes)) return 0;
            int head = code[address];
            if (isOutside(head, 128)) return 0;
            int kind = head >> 3;
            int low = head & 7;
            if ((kind == 0 || kind == 11) && low != 0) return 0;
            int length = kind == 10 ? JUMP_LENGTHS[low] : LENGTHS[kind];
            if (address + length > bytes) return 0;
            if (kind >= 2 && kind <= 4 && code[address + 1] >= REGISTERS) return 0;
            return length;
        }

        /** Returns the sign of the operation at an address, '-' if there is none. */
        private char signAt(int address) {
            if (lengthAt(address) == 0) return '-';
            int head = code[address];
            return head >> 3 == 10 ? JUMP_SIGNS[head & 7] : SIGNS[head >> 3];
        }

        private int registerAt(int address) {
            return isOutside(address, bytes) ? 0 : code[address] & 7;
        }

        /** Returns the second byte of the operation at an address. */
        private int operandAt(int address) {
            return isOutside(address + 1, bytes) ? 0 : code[address + 1];
        }

        /** Returns where the way of a jump or a call goes. */
        private int targetAt(int address) {
            int length = lengthAt(address);
            if (length < 2) return -1;
            int way = length == 2 ? (byte) code[address + 1] : (short) (code[address + 1] << 8 | code[address + 2]);
            return address + length + way;
        }

        private boolean isBegin(int address) {
            for (int function = 0; function < functionCount; function++) {
                if (begin[function] == address) return true;
            }
            return false;
        }

        /** Returns the first guard that an address has, -1 if there is none. */
        private int guardOf(int address) {
            for (int index = 0; index < guardCount; index++) {
                if (guardFrom[index] <= address && address < guardTo[index]) return index;
            }
            return -1;
        }

        private int longJumps() {
            int found = 0;
            for (int index = 0; index < pieceCount; index++) {
                int address = pieceBegin[index];
                for (int step = 0; step < BYTES && address < pieceEnd[index]; step++) {
                    int length = lengthAt(address);
                    if (length == 0) break;
                    if (length == 3 && isJump(signAt(address))) found++;
                    address += length;
                }
            }
            return found;
        }

        private long addedTo(long before) {
            long sum = before * 31 + bytes;
            for (int address = 0; address < bytes; address++) sum = sum * 31 + code[address];
            return sum;
        }
    }

    /** Runs an image, and tells a profile what was gone. */
    private static final class Machine {
        private Image image = null;
        private Profile profile = null;
        private int[] toRead = null;
        private int readable = 0;
        private int readCount = 0;
        private final int[] registers = new int[REGISTERS];
        private final int[] callers = new int[OPEN_CALLS];
        private final int[] printed = new int[WORKS];
        private final int[] lines = new int[LINES];
        private final int[] seen = new int[BYTES];
        private int mark = 0;
        private int open = 0;
        private int works = 0;
        private int jumps = 0;
        private int taken = 0;
        private int misses = 0;
        private int deepest = 0;
        private int printCount = 0;
        private int address = 0;
        private char ending = '-';

        private Machine() {
        }

        private void execute(Image which, int[] numbers, int numberCount, Profile watching) {
            image = which;
            profile = watching;
            toRead = numbers;
            readable = numberCount;
            readCount = 0;
            Arrays.fill(registers, 0);
            Arrays.fill(lines, -1);
            mark++;
            open = 0;
            works = 0;
            jumps = 0;
            taken = 0;
            misses = 0;
            deepest = 0;
            printCount = 0;
            ending = '-';
            address = image.begin[0];
            profile.comeIn(address);
            for (int steps = 0; steps < MANY && ending == '-'; steps++) step();
        }

        private void step() {
            char sign = image.signAt(address);
            ending = refusalOf(sign);
            if (ending != '-') return;
            lookUp(address >> 3);
            if (isWork(sign)) {
                works++;
                mark++;
                doWork(sign);
            } else {
                seen[address] = mark;
                doOther(sign);
            }
        }

        private static boolean isWork(char sign) {
            return sign != 'n' && !isJump(sign);
        }

        /** Returns how the run ends ahead of an operation, '-' if it does not. */
        private char refusalOf(char sign) {
            if (sign == '-') return 'i';
            if (!isWork(sign)) return seen[address] == mark ? 'l' : '-';
            if (works >= WORKS) return 's';
            if (sign == 'f' && isOutside(registers[image.registerAt(address)], image.functionCount)) return 'x';
            return (sign == 'c' || sign == 'f') && open >= OPEN_CALLS ? 'd' : '-';
        }

        private void lookUp(int line) {
            int set = line & (LINES - 1);
            if (lines[set] == line) return;
            misses++;
            lines[set] = line;
        }

        private void doOther(char sign) {
            int at = address;
            address = at + image.lengthAt(at);
            boolean isZero = registers[image.registerAt(at)] == 0;
            boolean goes = sign == 'j' || sign == 'z' && isZero || sign == 'y' && !isZero;
            if (sign != 'n') jumps++;
            if (goes) {
                taken++;
                address = image.targetAt(at);
            }
            profile.gone(at, sign == 'j' || sign == 'n' || isZero ? 0 : 1);
        }

        private void doWork(char sign) {
            int at = address;
            address = at + image.lengthAt(at);
            if (sign == 'c') {
                enter(at, image.targetAt(at));
            } else if (sign == 'f') {
                enter(at, image.begin[registers[image.registerAt(at)]]);
            } else if (sign == 'w') {
                goBySwitch(at);
            } else if (sign == 't') {
                profile.gone(at, 0);
                throwFrom(at, registers[image.registerAt(at)]);
            } else {
                if (sign == 'h') ending = 'h';
                else if (sign != 'r') calculate(sign, at);
                profile.gone(at, 0);
                if (sign == 'r') comeBack();
            }
        }

        private void calculate(char sign, int at) {
            int register = image.registerAt(at);
            int operand = image.operandAt(at);
            int other = registers[operand & 7];
            if (sign == 's') registers[register] = operand;
            else if (sign == 'a') registers[register] += other;
            else if (sign == 'b') registers[register] -= other;
            else if (sign == 'm') registers[register] *= other;
            else if (sign == 'd') registers[register] = nextNumber();
            else if (sign == 'p' && printCount < WORKS) {
                printed[printCount] = registers[register];
                printCount++;
            }
        }

        private int nextNumber() {
            if (readCount >= readable) return 0;
            readCount++;
            return toRead[readCount - 1];
        }

        private void enter(int at, int to) {
            callers[open] = at;
            open++;
            deepest = Math.max(deepest, open);
            address = to;
            profile.comeIn(to);
        }

        private void comeBack() {
            if (open == 0) {
                ending = 'r';
                return;
            }
            open--;
            int at = callers[open];
            address = at + image.lengthAt(at);
            profile.gone(at, 0);
        }

        private void goBySwitch(int at) {
            int table = image.operandAt(at);
            int index = registers[image.registerAt(at)];
            int size = table < TABLES ? image.tableSize[table] : 0;
            boolean goes = !isOutside(index, size);
            if (goes) address = image.tables[table * TABLE_LABELS + index];
            profile.gone(at, goes ? index : size);
        }

        private void throwFrom(int at, int thrown) {
            int guard = image.guardOf(at);
            while (guard < 0 && open > 0) {
                open--;
                guard = image.guardOf(callers[open]);
            }
            if (guard < 0) {
                ending = 'u';
                return;
            }
            registers[0] = thrown;
            address = image.guardTarget[guard];
            profile.comeIn(address);
        }

        private boolean didLike(Machine other) {
            if (ending != other.ending || works != other.works || deepest != other.deepest
                    || printCount != other.printCount) {
                return false;
            }
            for (int index = 0; index < printCount; index++) {
                if (printed[index] != other.printed[index]) return false;
            }
            return true;
        }
    }

    /** Looks whether an image can be taken apart, and keeps of which piece each operation is. */
    private static final class Checker {
        private Image image = null;
        /** By addresses: the piece of the operation that begins there, -1 if none does. */
        private final int[] pieceAt = new int[BYTES];
        private final int[] tableUser = new int[TABLES];
        private char sign = '-';
        private int address = 0;

        private Checker() {
        }

        private boolean isFaultless(Image which) {
            image = which;
            sign = '-';
            address = 0;
            return readsWhole() && goesRight() && endsRight() && guardsRight();
        }

        private boolean isRefused(char letter, int at) {
            sign = letter;
            address = at;
            return false;
        }

        private boolean isOp(int at) {
            return !isOutside(at, image.bytes) && pieceAt[at] >= 0;
        }

        private int functionAt(int at) {
            return isOp(at) ? image.pieceFunction[pieceAt[at]] : -1;
        }

        private boolean readsWhole() {
            Arrays.fill(pieceAt, -1);
            for (int piece = 0; piece < image.pieceCount; piece++) {
                int at = image.pieceBegin[piece];
                for (int step = 0; step < BYTES && at < image.pieceEnd[piece]; step++) {
                    int length = image.lengthAt(at);
                    if (length == 0 || at + length > image.pieceEnd[piece]) return isRefused('o', at);
                    pieceAt[at] = piece;
                    at += length;
                }
            }
            return true;
        }

        private boolean goesRight() {
            Arrays.fill(tableUser, -1);
            for (int at = 0; at < image.bytes; at++) {
                if (pieceAt[at] >= 0) {
                    char letter = faultOf(at);
                    if (letter != '-') return isRefused(letter, at);
                }
            }
            return true;
        }

        private char faultOf(int at) {
            char op = image.signAt(at);
            int function = functionAt(at);
            if (isJump(op) && functionAt(image.targetAt(at)) != function) return 'j';
            if (op == 'c' && !image.isBegin(image.targetAt(at))) return 'c';
            return op == 'w' && !switchesRight(image.operandAt(at), function) ? 'w' : '-';
        }

        private boolean switchesRight(int table, int function) {
            if (table >= TABLES || image.tableSize[table] == 0) return false;
            if (tableUser[table] >= 0 && tableUser[table] != function) return false;
            tableUser[table] = function;
            for (int index = 0; index < image.tableSize[table]; index++) {
                if (functionAt(image.tables[table * TABLE_LABELS + index]) != function) return false;
            }
            return true;
        }

        private boolean endsRight() {
            for (int piece = 0; piece < image.pieceCount; piece++) {
                int last = image.pieceEnd[piece] - 1;
                for (int step = 0; step < 3 && !isOp(last); step++) last--;
                char op = image.signAt(last);
                if (op != 'j' && op != 'r' && op != 'h' && op != 't') return isRefused('e', last);
            }
            return true;
        }

        private boolean guardsRight() {
            for (int index = 0; index < image.guardCount; index++) {
                if (!guardsWell(index)) return isRefused('g', image.guardFrom[index]);
            }
            return true;
        }

        private boolean guardsWell(int index) {
            int from = image.guardFrom[index];
            int to = image.guardTo[index];
            if (!isOp(from) || from >= to) return false;
            int piece = pieceAt[from];
            boolean isEnded = to == image.pieceEnd[piece] || isOp(to) && pieceAt[to] == piece;
            return isEnded && functionAt(image.guardTarget[index]) == image.pieceFunction[piece];
        }
    }

    /** The blocks of the old image, as they were read, and as they were altered since. */
    private static final class Blocks {
        private Image image = null;
        private int total = 0;
        private final int[] owner = new int[BYTES];
        private final int[] begin = new int[BYTES];
        private final int[] lastAt = new int[BYTES];
        private final boolean[] there = new boolean[BYTES];
        private final char[] ending = new char[BYTES];
        private final int[] register = new int[BYTES];
        private final int[] slotStart = new int[BYTES];
        private final int[] slotCount = new int[BYTES];
        private final int[] target = new int[SLOTS];
        private final int[] guard = new int[BYTES];
        private final int[] opStart = new int[BYTES];
        private final int[] opCount = new int[BYTES];
        private final int[] opAddress = new int[BYTES];
        /** By operations: the function that a 'c' calls, as it was read, -1 for others. */
        private final int[] opCallee = new int[BYTES];
        /** By addresses: the block that begins there, and that whose last operation is there. */
        private final int[] blockAt = new int[BYTES];
        private final int[] endingAt = new int[BYTES];
        private final boolean[] wayIn = new boolean[BYTES];
        private final int[] same = new int[FUNCTIONS];
        private final int[] first = new int[FUNCTIONS];

        private Blocks() {
        }

        private void read(Image which, Checker checker) {
            image = which;
            Arrays.fill(blockAt, -1);
            Arrays.fill(endingAt, -1);
            markBegins(checker);
            numberBlocks(checker);
            int ops = 0;
            for (int block = 0; block < total; block++) ops = readOps(block, ops, checker);
            for (int op = 0; op < ops; op++) opCallee[op] = readCallee(opAddress[op]);
            int slots = 0;
            for (int block = 0; block < total; block++) slots = readEnd(block, slots);
            readGuards();
            readFunctions();
        }

        private void markBegins(Checker checker) {
            for (int piece = 0; piece < image.pieceCount; piece++) markBegin(image.pieceBegin[piece], checker);
            for (int at = 0; at < image.bytes; at++) {
                if (checker.isOp(at)) markByOp(at, checker);
            }
            for (int index = 0; index < image.guardCount; index++) {
                markBegin(image.guardFrom[index], checker);
                markBegin(image.guardTo[index], checker);
                markBegin(image.guardTarget[index], checker);
            }
        }

        private void markBegin(int at, Checker checker) {
            if (checker.isOp(at)) blockAt[at] = 0;
        }

        private void markByOp(int at, Checker checker) {
            char sign = image.signAt(at);
            if (isEndSign(sign)) markBegin(at + image.lengthAt(at), checker);
            if (isJump(sign)) markBegin(image.targetAt(at), checker);
            if (sign != 'w') return;
            int table = image.operandAt(at);
            if (table >= TABLES) return;
            for (int index = 0; index < image.tableSize[table]; index++) {
                markBegin(image.tables[table * TABLE_LABELS + index], checker);
            }
        }

        private void numberBlocks(Checker checker) {
            total = 0;
            for (int at = 0; at < image.bytes; at++) {
                if (blockAt[at] >= 0) {
                    blockAt[at] = total;
                    begin[total] = at;
                    owner[total] = checker.functionAt(at);
                    there[total] = true;
                    wayIn[total] = false;
                    total++;
                }
            }
        }

        private int readOps(int block, int start, Checker checker) {
            int at = begin[block];
            int piece = checker.pieceAt[at];
            int ops = start;
            opStart[block] = start;
            lastAt[block] = at;
            for (int step = 0; step < BYTES; step++) {
                char sign = image.signAt(at);
                if (sign != 'n' && !isEndSign(sign)) {
                    opAddress[ops] = at;
                    ops++;
                }
                lastAt[block] = at;
                at += image.lengthAt(at);
                if (!checker.isOp(at) || checker.pieceAt[at] != piece || blockAt[at] >= 0) break;
            }
            opCount[block] = ops - start;
            endingAt[lastAt[block]] = block;
            return ops;
        }

        private int blockAtAddress(int at) {
            return isOutside(at, image.bytes) ? -1 : blockAt[at];
        }

        private int readEnd(int block, int start) {
            int at = lastAt[block];
            char sign = image.signAt(at);
            int next = blockAtAddress(at + image.lengthAt(at));
            int slots = start;
            slotStart[block] = start;
            register[block] = -1;
            if (sign == 'z' || sign == 'y') {
                int goal = blockAtAddress(image.targetAt(at));
                ending[block] = 'c';
                register[block] = image.registerAt(at);
                slots = addSlot(slots, sign == 'z' ? goal : next);
                slots = addSlot(slots, sign == 'z' ? next : goal);
            } else if (sign == 'w') {
                ending[block] = 'w';
                register[block] = image.registerAt(at);
                slots = addSlot(addTable(slots, image.operandAt(at)), next);
            } else if (sign == 'r' || sign == 'h' || sign == 't') {
                ending[block] = sign;
                slots = addSlot(slots, -1);
            } else {
                ending[block] = 'g';
                slots = addSlot(slots, sign == 'j' ? blockAtAddress(image.targetAt(at)) : next);
            }
            slotCount[block] = slots - start;
            return slots;
        }

        private int addSlot(int slots, int goal) {
            if (slots >= SLOTS) return slots;
            target[slots] = goal;
            return slots + 1;
        }

        private int addTable(int start, int table) {
            int slots = start;
            if (table >= TABLES) return slots;
            for (int index = 0; index < image.tableSize[table]; index++) {
                slots = addSlot(slots, blockAtAddress(image.tables[table * TABLE_LABELS + index]));
            }
            return slots;
        }

        private void readGuards() {
            for (int block = 0; block < total; block++) {
                int index = image.guardOf(begin[block]);
                guard[block] = index < 0 ? -1 : blockAtAddress(image.guardTarget[index]);
            }
            for (int index = 0; index < image.guardCount; index++) {
                int block = blockAtAddress(image.guardTarget[index]);
                if (block >= 0) wayIn[block] = true;
            }
        }

        private void readFunctions() {
            for (int function = 0; function < image.functionCount; function++) {
                first[function] = blockAtAddress(image.begin[function]);
                if (hasPiece(function)) {
                    same[function] = function;
                    if (first[function] >= 0) wayIn[first[function]] = true;
                } else {
                    same[function] = leastAt(image.begin[function]);
                }
            }
        }

        private boolean hasPiece(int function) {
            for (int piece = 0; piece < image.pieceCount; piece++) {
                if (image.pieceFunction[piece] == function) return true;
            }
            return false;
        }

        private int leastAt(int address) {
            for (int function = 0; function < image.functionCount; function++) {
                if (image.begin[function] == address) return function;
            }
            return 0;
        }

        private boolean hasBlocks(int function) {
            return same[function] == function && first[function] >= 0;
        }

        private int opEnd(int block) {
            return opStart[block] + opCount[block];
        }

        private int readCallee(int at) {
            int block = image.signAt(at) == 'c' ? blockAtAddress(image.targetAt(at)) : -1;
            return block < 0 ? -1 : owner[block];
        }

        /** Returns the function that an operation 'c' calls, not a folded one, -1 for other operations. */
        private int calleeOf(int op) {
            return opCallee[op] < 0 ? -1 : same[opCallee[op]];
        }

        private int lastSlot(int block) {
            return slotStart[block] + slotCount[block] - 1;
        }

        private boolean hasLikeSuccessors(int block) {
            return target[slotStart[block]] == target[lastSlot(block)];
        }

        private int bytesOf(int function) {
            int bytes = 0;
            for (int piece = 0; piece < image.pieceCount; piece++) {
                if (image.pieceFunction[piece] == function) bytes += image.pieceEnd[piece] - image.pieceBegin[piece];
            }
            return bytes;
        }
    }

    /** The counts and flows of slots and ways in. */
    private static final class Profile {
        private final Blocks parts;
        private final int[] counts = new int[SLOTS];
        private final int[] flows = new int[SLOTS];
        private final int[] wayCounts = new int[BYTES];
        private final int[] wayFlows = new int[BYTES];
        private final int[] weights = new int[BYTES];
        /** 0 as nothing is to be counted. */
        private int period = 0;
        private int events = 0;

        private Profile(Blocks parts) {
            this.parts = parts;
        }

        private void reset() {
            Arrays.fill(counts, 0);
            Arrays.fill(wayCounts, 0);
            forgetFlows();
        }

        private void forgetFlows() {
            Arrays.fill(flows, 0);
            Arrays.fill(wayFlows, 0);
        }

        private int countOf(int block, int slot) {
            return slot < 0 ? wayCounts[block] : counts[parts.slotStart[block] + slot];
        }

        private void setCount(int block, int slot, int number) {
            if (slot < 0) wayCounts[block] = number;
            else counts[parts.slotStart[block] + slot] = number;
        }

        private int flowOf(int block, int slot) {
            return slot < 0 ? wayFlows[block] : flows[parts.slotStart[block] + slot];
        }

        private void comeIn(int address) {
            if (period == 0 || isOutside(address, parts.image.bytes)) return;
            int block = parts.blockAt[address];
            if (block >= 0 && parts.wayIn[block]) happen(block, -1);
        }

        /** Counts a slot, if the operation at an address is the last one of a block. */
        private void gone(int address, int slot) {
            if (period == 0 || isOutside(address, parts.image.bytes)) return;
            int block = parts.endingAt[address];
            if (block < 0) return;
            happen(block, slot);
        }

        private void happen(int block, int slot) {
            int number = events;
            events++;
            if (period == 0 || number % period != 0 || slot >= parts.slotCount[block]) return;
            int at = parts.slotStart[block] + slot;
            int sum = (slot < 0 ? wayCounts[block] : counts[at]) + period;
            if (sum > MOST_COUNTED) sum = MOST_COUNTED;
            if (slot < 0) wayCounts[block] = sum;
            else counts[at] = sum;
        }

        private void fillWeights() {
            for (int block = 0; block < parts.total; block++) {
                weights[block] = parts.there[block] && parts.wayIn[block] ? wayFlows[block] : 0;
            }
            for (int block = 0; block < parts.total; block++) {
                if (parts.there[block]) addSlotsToWeights(block);
            }
        }

        private void addSlotsToWeights(int block) {
            for (int slot = parts.slotStart[block]; slot <= parts.lastSlot(block); slot++) {
                int to = parts.target[slot];
                if (to >= 0) weights[to] += flows[slot];
            }
        }

        /** Tells whether for each block what comes in is what goes out. */
        private boolean conserves() {
            fillWeights();
            for (int block = 0; block < parts.total; block++) {
                if (parts.there[block]) {
                    int out = 0;
                    for (int slot = parts.slotStart[block]; slot <= parts.lastSlot(block); slot++) out += flows[slot];
                    if (out != weights[block]) return false;
                }
            }
            return true;
        }

        private long addedTo(long before) {
            long sum = before;
            for (int block = 0; block < parts.total; block++) {
                sum = sum * 31 + (parts.there[block] ? 1 : 0);
                sum = sum * 31 + parts.ending[block];
                if (parts.wayIn[block]) {
                    sum = sum * 31 + wayCounts[block];
                    sum = sum * 31 + wayFlows[block];
                    sum = sum * 31 - 1;
                }
                for (int slot = parts.slotStart[block]; slot <= parts.lastSlot(block); slot++) {
                    sum = sum * 31 + counts[slot];
                    sum = sum * 31 + flows[slot];
                    sum = sum * 31 + parts.target[slot];
                }
            }
            return sum;
        }
    }

    /** Finds the flows of a function. Its nodes are its blocks, and what is outside behind them. */
    private static final class Flows {
        private final Blocks parts;
        private final Profile profile;
        private int nodes = 0;
        private int edges = 0;
        private final int[] nodeOf = new int[BYTES];
        private final int[] from = new int[EDGES];
        private final int[] to = new int[EDGES];
        private final int[] wanted = new int[EDGES];
        private final int[] amount = new int[EDGES];
        private final int[] low = new int[EDGES];
        private final int[] high = new int[EDGES];
        /** The slot of an edge, or -1 less the block whose way in it is. */
        private final int[] originOf = new int[EDGES];
        /** Arcs: twice the edge along it, and one more against it. */
        private final int[] headArc = new int[BYTES + 1];
        private final int[] nextArc = new int[2 * EDGES];
        private final int[] distance = new int[BYTES + 1];
        private final int[] arcTo = new int[BYTES + 1];
        private final int[] queue = new int[BYTES + 1];
        private final int[] surplus = new int[BYTES + 1];

        private Flows(Blocks parts, Profile profile) {
            this.parts = parts;
            this.profile = profile;
        }

        private int settle(int function) {
            collect(function);
            balance();
            setBounds();
            for (int edge = 0; edge < edges; edge++) lower(edge);
            return keep();
        }

        private void collect(int function) {
            nodes = 0;
            edges = 0;
            for (int block = 0; block < parts.total; block++) {
                if (isOf(block, function)) {
                    nodeOf[block] = nodes;
                    nodes++;
                }
            }
            Arrays.fill(headArc, 0, nodes + 1, -1);
            Arrays.fill(surplus, 0, nodes + 1, 0);
            for (int block = 0; block < parts.total; block++) {
                if (isOf(block, function)) collectSlots(block);
            }
            for (int block = 0; block < parts.total; block++) {
                if (isOf(block, function) && parts.wayIn[block]) {
                    addEdge(nodes, nodeOf[block], profile.wayCounts[block], -1 - block);
                }
            }
        }

        private boolean isOf(int block, int function) {
            return parts.there[block] && parts.owner[block] == function;
        }

        private void collectSlots(int block) {
            for (int slot = parts.slotStart[block]; slot <= parts.lastSlot(block); slot++) {
                int goal = parts.target[slot];
                addEdge(nodeOf[block], goal < 0 ? nodes : nodeOf[goal], profile.counts[slot], slot);
            }
        }

        private void addEdge(int tail, int head, int counted, int origin) {
            if (edges >= EDGES) return;
            from[edges] = tail;
            to[edges] = head;
            wanted[edges] = counted;
            amount[edges] = counted;
            originOf[edges] = origin;
            surplus[tail] -= counted;
            surplus[head] += counted;
            nextArc[2 * edges] = headArc[tail];
            headArc[tail] = 2 * edges;
            nextArc[2 * edges + 1] = headArc[head];
            headArc[head] = 2 * edges + 1;
            edges++;
        }

        private int tailOf(int arc) {
            return (arc & 1) == 0 ? from[arc >> 1] : to[arc >> 1];
        }

        private int headOfArc(int arc) {
            return (arc & 1) == 0 ? to[arc >> 1] : from[arc >> 1];
        }

        /** Sends what is too much somewhere to where it lacks, each time by the cheapest path there is. */
        private void balance() {
            for (int round = 0; round < MANY; round++) {
                for (int node = 0; node <= nodes; node++) {
                    distance[node] = surplus[node] > 0 ? 0 : ENDLESS;
                    arcTo[node] = -1;
                }
                shorten();
                int sink = nearestSink();
                if (sink < 0) return;
                send(sink);
            }
        }

        /** Shortens distances by what one more, or one less, on an edge costs. */
        private void shorten() {
            boolean isChanged = true;
            for (int pass = 0; pass <= nodes + 1 && isChanged; pass++) {
                isChanged = false;
                for (int edge = 0; edge < edges; edge++) {
                    if (from[edge] == to[edge]) continue;
                    boolean isFilled = amount[edge] >= wanted[edge];
                    if (isNearer(2 * edge, isFilled ? 1 : -1)) isChanged = true;
                    boolean isOver = amount[edge] > wanted[edge];
                    if (amount[edge] > 0 && isNearer(2 * edge + 1, isOver ? -1 : 1)) isChanged = true;
                }
            }
        }

        private boolean isNearer(int arc, int cost) {
            int tail = tailOf(arc);
            int head = headOfArc(arc);
            if (distance[tail] == ENDLESS || distance[tail] + cost >= distance[head]) return false;
            distance[head] = distance[tail] + cost;
            arcTo[head] = arc;
            return true;
        }

        private int nearestSink() {
            int found = -1;
            for (int node = 0; node <= nodes; node++) {
                boolean isSink = surplus[node] < 0 && distance[node] < ENDLESS;
                if (isSink && (found < 0 || distance[node] < distance[found])) found = node;
            }
            return found;
        }

        private void send(int sink) {
            int most = -surplus[sink];
            int node = sink;
            for (int step = 0; step <= nodes && arcTo[node] >= 0; step++) {
                most = Math.min(most, roomByCost(arcTo[node]));
                node = tailOf(arcTo[node]);
            }
            most = Math.min(most, surplus[node]);
            surplus[node] -= most;
            surplus[sink] += most;
            pushBack(sink, most);
        }

        /** Returns how much an arc takes at the cost that it has now. */
        private int roomByCost(int arc) {
            int edge = arc >> 1;
            int over = amount[edge] - wanted[edge];
            if ((arc & 1) == 0) return over < 0 ? -over : ENDLESS;
            return over > 0 ? over : amount[edge];
        }

        /** Pushes along the arcs by which a node was reached, from their first one on. */
        private void pushBack(int last, int much) {
            int node = last;
            for (int step = 0; step <= nodes && arcTo[node] >= 0; step++) {
                int arc = arcTo[node];
                amount[arc >> 1] += (arc & 1) == 0 ? much : -much;
                node = tailOf(arc);
            }
        }

        /**
         * Lets each edge keep to the amounts with which the sum stays the least one: what one unit is worth more at
         * the head than at the tail tells whether it may be above its count, below it, or neither.
         */
        private void setBounds() {
            Arrays.fill(distance, 0, nodes + 1, 0);
            shorten();
            for (int edge = 0; edge < edges; edge++) {
                int worth = distance[to[edge]] - distance[from[edge]];
                low[edge] = worth < 0 ? 0 : wanted[edge];
                high[edge] = worth < -1 ? 0 : worth > 0 ? ENDLESS : wanted[edge];
            }
        }

        /** Lets an edge have as little as it can, by going round it, and keep that. */
        private void lower(int edge) {
            for (int round = 0; round < MANY && amount[edge] > low[edge]; round++) {
                if (!reaches(edge)) break;
                int most = amount[edge] - low[edge];
                int node = to[edge];
                for (int step = 0; step <= nodes && arcTo[node] >= 0; step++) {
                    most = Math.min(most, roomByBounds(arcTo[node]));
                    node = tailOf(arcTo[node]);
                }
                pushBack(to[edge], most);
                amount[edge] -= most;
            }
            low[edge] = amount[edge];
            high[edge] = amount[edge];
        }

        private int roomByBounds(int arc) {
            int edge = arc >> 1;
            return (arc & 1) == 0 ? high[edge] - amount[edge] : amount[edge] - low[edge];
        }

        /** Tells whether the end of an edge is reached from its begin, without it, by the fewest arcs. */
        private boolean reaches(int edge) {
            Arrays.fill(distance, 0, nodes + 1, ENDLESS);
            int goal = to[edge];
            int waiting = 1;
            queue[0] = from[edge];
            distance[from[edge]] = 0;
            arcTo[from[edge]] = -1;
            for (int index = 0; index <= nodes && index < waiting && distance[goal] == ENDLESS; index++) {
                int arc = headArc[queue[index]];
                for (int step = 0; step < 2 * EDGES && arc >= 0; step++) {
                    int head = headOfArc(arc);
                    if (arc >> 1 != edge && distance[head] == ENDLESS && roomByBounds(arc) > 0) {
                        distance[head] = index;
                        arcTo[head] = arc;
                        queue[waiting] = head;
                        waiting++;
                    }
                    arc = nextArc[arc];
                }
            }
            return distance[goal] < ENDLESS;
        }

        private int keep() {
            int changed = 0;
            for (int edge = 0; edge < edges; edge++) {
                int origin = originOf[edge];
                if (origin >= 0) profile.flows[origin] = amount[edge];
                else profile.wayFlows[-1 - origin] = amount[edge];
                changed += Math.abs(amount[edge] - wanted[edge]);
            }
            return changed;
        }
    }

    /** The orders of the blocks of functions. */
    private static final class Orders {
        private final Blocks parts;
        private final Profile profile;
        private final int[] row = new int[BYTES];
        private final int[] start = new int[FUNCTIONS];
        private final int[] length = new int[FUNCTIONS];
        /** Whether a function was ordered since it was let flow last. */
        private final boolean[] isOrdered = new boolean[FUNCTIONS];
        /** For sets of up to 8 blocks and the last one of these: the most that all others gain behind it. */
        private final int[] best = new int[(1 << SMALL) * SMALL];
        private final int[] gains = new int[SMALL * SMALL];
        private final int[] members = new int[SMALL];
        private final int[] next = new int[BYTES];
        private final int[] previous = new int[BYTES];
        private int pairCount = 0;
        private final int[] pairAhead = new int[2 * BYTES];
        private final int[] pairBehind = new int[2 * BYTES];
        private final int[] pairGain = new int[2 * BYTES];
        private int headCount = 0;
        private final int[] heads = new int[BYTES];
        private final int[] headWeight = new int[BYTES];

        private Orders(Blocks parts, Profile profile) {
            this.parts = parts;
            this.profile = profile;
        }

        private void readAll() {
            int at = 0;
            for (int function = 0; function < parts.image.functionCount; function++) {
                isOrdered[function] = false;
                start[function] = at;
                length[function] = parts.hasBlocks(function) ? readOne(function) : 0;
                at += length[function];
            }
        }

        /** Lets the order of a function be as it was read. */
        private int readOne(int function) {
            int first = parts.first[function];
            int found = 1;
            row[start[function]] = first;
            for (int block = 0; block < parts.total; block++) {
                if (parts.there[block] && parts.owner[block] == function && block != first) {
                    row[start[function] + found] = block;
                    found++;
                }
            }
            return found;
        }

        private int gainBehind(int ahead, int behind) {
            char end = parts.ending[ahead];
            int last = parts.lastSlot(ahead);
            if (end == 'w') return parts.target[last] == behind ? profile.flows[last] : 0;
            if (end != 'g' && end != 'c') return 0;
            int gain = 0;
            for (int slot = parts.slotStart[ahead]; slot <= last; slot++) {
                if (parts.target[slot] == behind) gain += profile.flows[slot];
            }
            return gain;
        }

        private int gainOf(int function) {
            int gain = 0;
            for (int index = start[function] + 1; index < start[function] + length[function]; index++) {
                gain += gainBehind(row[index - 1], row[index]);
            }
            return gain;
        }

        private void settle(int function) {
            isOrdered[function] = true;
            if (length[function] <= SMALL) {
                settleSmall(function);
                return;
            }
            readOne(function);
            int gainAsRead = gainOf(function);
            joinPairs(function);
            sortHeads(function);
            lineUp(function);
            for (int round = 0; round < MANY; round++) {
                if (!movesOne(function)) break;
            }
            if (gainOf(function) < gainAsRead) readOne(function);
        }

        /** Tells whether no order of few blocks gains more than one that was ordered. */
        private boolean areBest() {
            for (int function = 0; function < parts.image.functionCount; function++) {
                if (parts.hasBlocks(function) && isOrdered[function] && length[function] <= SMALL) {
                    int first = fillBest(function);
                    if (best[(1 << first) * SMALL + first] > gainOf(function)) return false;
                }
            }
            return true;
        }

        private void settleSmall(int function) {
            int last = fillBest(function);
            int set = 1 << last;
            row[start[function]] = members[last];
            for (int place = 1; place < length[function]; place++) {
                for (int other = 0; other < length[function]; other++) {
                    boolean isFree = (set & 1 << other) == 0;
                    if (isFree && gainBy(set, last, other) == best[set * SMALL + last]) {
                        last = other;
                        break;
                    }
                }
                set |= 1 << last;
                row[start[function] + place] = members[last];
            }
        }

        private int gainBy(int set, int last, int other) {
            return gains[last * SMALL + other] + best[(set | 1 << other) * SMALL + other];
        }

        /** Finds what can be gained behind each set of blocks; returns the place of the first block by numbers. */
        private int fillBest(int function) {
            int many = length[function];
            int first = sortMembers(function);
            for (int ahead = 0; ahead < many; ahead++) {
                for (int behind = 0; behind < many; behind++) {
                    gains[ahead * SMALL + behind] = gainBehind(members[ahead], members[behind]);
                }
            }
            for (int set = (1 << many) - 1; set > 0; set--) {
                for (int last = 0; last < many; last++) {
                    if ((set & 1 << last) != 0) best[set * SMALL + last] = bestBehind(set, last, many);
                }
            }
            return first;
        }

        private int bestBehind(int set, int last, int many) {
            int most = 0;
            for (int other = 0; other < many; other++) {
                if ((set & 1 << other) == 0) most = Math.max(most, gainBy(set, last, other));
            }
            return most;
        }

        private int sortMembers(int function) {
            int found = 0;
            int first = 0;
            for (int block = 0; block < parts.total && found < SMALL; block++) {
                if (parts.there[block] && parts.owner[block] == function) {
                    if (block == parts.first[function]) first = found;
                    members[found] = block;
                    found++;
                }
            }
            return first;
        }

        private void joinPairs(int function) {
            pairCount = 0;
            for (int index = start[function]; index < start[function] + length[function]; index++) {
                int block = row[index];
                next[block] = -1;
                previous[block] = -1;
                collectPairs(block);
            }
            for (int pair = 0; pair < pairCount; pair++) {
                int ahead = pairAhead[pair];
                int behind = pairBehind[pair];
                boolean isFree = next[ahead] < 0 && previous[behind] < 0 && behind != parts.first[function];
                if (isFree && headOfRow(ahead) != behind) {
                    next[ahead] = behind;
                    previous[behind] = ahead;
                }
            }
        }

        private void collectPairs(int ahead) {
            char end = parts.ending[ahead];
            if (end != 'g' && end != 'c' && end != 'w') return;
            int last = parts.target[parts.lastSlot(ahead)];
            addPair(ahead, last);
            if (end == 'c' && !parts.hasLikeSuccessors(ahead)) addPair(ahead, parts.target[parts.slotStart[ahead]]);
        }

        private void addPair(int ahead, int behind) {
            if (behind < 0 || behind == ahead || pairCount >= 2 * BYTES) return;
            int gain = gainBehind(ahead, behind);
            if (gain <= 0) return;
            int at = pairCount;
            for (int step = 0; step < pairCount && isPairBefore(gain, ahead, behind, at - 1); step++) {
                pairGain[at] = pairGain[at - 1];
                pairAhead[at] = pairAhead[at - 1];
                pairBehind[at] = pairBehind[at - 1];
                at--;
            }
            pairGain[at] = gain;
            pairAhead[at] = ahead;
            pairBehind[at] = behind;
            pairCount++;
        }

        private boolean isPairBefore(int gain, int ahead, int behind, int other) {
            if (gain != pairGain[other]) return gain > pairGain[other];
            if (ahead != pairAhead[other]) return ahead < pairAhead[other];
            return behind < pairBehind[other];
        }

        private int headOfRow(int block) {
            int head = block;
            for (int step = 0; step < BYTES && previous[head] >= 0; step++) head = previous[head];
            return head;
        }

        private void sortHeads(int function) {
            profile.fillWeights();
            headCount = 0;
            for (int index = start[function]; index < start[function] + length[function]; index++) {
                int block = row[index];
                if (previous[block] < 0) addHead(block, block == parts.first[function]);
            }
        }

        private void addHead(int head, boolean isFirst) {
            int weight = 0;
            int block = head;
            for (int step = 0; step < BYTES && block >= 0; step++) {
                weight = Math.max(weight, profile.weights[block]);
                block = next[block];
            }
            if (isFirst) weight = ENDLESS;
            int at = headCount;
            for (int step = 0; step < headCount && isHeadBefore(weight, head, at - 1); step++) {
                heads[at] = heads[at - 1];
                headWeight[at] = headWeight[at - 1];
                at--;
            }
            heads[at] = head;
            headWeight[at] = weight;
            headCount++;
        }

        private boolean isHeadBefore(int weight, int head, int other) {
            return weight != headWeight[other] ? weight > headWeight[other] : head < heads[other];
        }

        private void lineUp(int function) {
            int at = start[function];
            for (int index = 0; index < headCount; index++) {
                int block = heads[index];
                for (int step = 0; step < BYTES && block >= 0; step++) {
                    row[at] = block;
                    at++;
                    block = next[block];
                }
            }
        }

        /** Moves the block to the place by which the gain becomes greatest; tells whether one gains. */
        private boolean movesOne(int function) {
            int most = 0;
            int bestFrom = -1;
            int bestTo = -1;
            for (int from = 1; from < length[function]; from++) {
                for (int to = 1; to < length[function]; to++) {
                    int more = to == from ? 0 : gainByMove(function, from, to);
                    boolean isLess = bestFrom >= 0 && blockOf(function, from) < blockOf(function, bestFrom);
                    if (more > most || more == most && isLess) {
                        most = more;
                        bestFrom = from;
                        bestTo = to;
                    }
                }
            }
            if (bestFrom < 0) return false;
            move(start[function], bestFrom, bestTo);
            return true;
        }

        private int blockOf(int function, int place) {
            return row[start[function] + place];
        }

        private int gainByMove(int function, int from, int to) {
            int moved = blockOf(function, from);
            int before = blockOf(function, from - 1);
            int more = -gainBehind(before, moved);
            if (from + 1 < length[function]) {
                int after = blockOf(function, from + 1);
                more += gainBehind(before, after) - gainBehind(moved, after);
            }
            int ahead = blockOf(function, to - 1 < from ? to - 1 : to);
            more += gainBehind(ahead, moved);
            int behindPlace = to < from ? to : to + 1;
            if (behindPlace < length[function]) {
                int behind = blockOf(function, behindPlace);
                more += gainBehind(moved, behind) - gainBehind(ahead, behind);
            }
            return more;
        }

        private void move(int base, int from, int to) {
            int moved = row[base + from];
            if (from < to) System.arraycopy(row, base + from + 1, row, base + from, to - from);
            else System.arraycopy(row, base + to, row, base + to + 1, from - to);
            row[base + to] = moved;
        }
    }

    /** The order of the functions. */
    private static final class Places {
        private final Blocks parts;
        private final Profile profile;
        private int held = 0;
        private final int[] sequence = new int[FUNCTIONS];
        private final int[] weight = new int[FUNCTIONS];
        private final int[] queue = new int[FUNCTIONS];
        private final int[] rowOf = new int[FUNCTIONS];
        private final int[] rowMembers = new int[FUNCTIONS * FUNCTIONS];
        private final int[] rowLength = new int[FUNCTIONS];
        private final int[] rowBytes = new int[FUNCTIONS];
        private final long[] calls = new long[FUNCTIONS];

        private Places(Blocks parts, Profile profile) {
            this.parts = parts;
            this.profile = profile;
        }

        private void reset() {
            held = 0;
            for (int function = 0; function < parts.image.functionCount; function++) {
                if (parts.hasBlocks(function)) {
                    sequence[held] = function;
                    held++;
                }
            }
        }

        private int settle() {
            profile.fillWeights();
            reset();
            System.arraycopy(sequence, 0, queue, 0, held);
            for (int index = 0; index < held; index++) beginRow(queue[index]);
            sortByWeight(queue, held);
            for (int index = 0; index < held; index++) joinToCaller(queue[index]);
            return lineUp();
        }

        private void beginRow(int function) {
            weight[function] = profile.weights[parts.first[function]];
            rowOf[function] = function;
            rowMembers[function * FUNCTIONS] = function;
            rowLength[function] = 1;
            rowBytes[function] = parts.bytesOf(function);
        }

        /** Sorts by weights, the greater first; of like ones what stood ahead stays ahead. */
        private void sortByWeight(int[] functions, int many) {
            for (int index = 1; index < many; index++) {
                int moved = functions[index];
                int at = index;
                for (int step = 0; step < index && weight[functions[at - 1]] < weight[moved]; step++) {
                    functions[at] = functions[at - 1];
                    at--;
                    if (at == 0) break;
                }
                functions[at] = moved;
            }
        }

        private void joinToCaller(int function) {
            int caller = bestCallerOf(function);
            if (caller < 0) return;
            int to = rowOf[caller];
            int row = rowOf[function];
            if (to == row || rowBytes[to] + rowBytes[row] > ROW_BYTES) return;
            int many = rowLength[row];
            for (int index = 0; index < many; index++) {
                int member = rowMembers[row * FUNCTIONS + index];
                rowMembers[to * FUNCTIONS + rowLength[to]] = member;
                rowLength[to]++;
                rowOf[member] = to;
            }
            rowLength[row] = 0;
            rowBytes[to] += rowBytes[row];
        }

        private int bestCallerOf(int function) {
            Arrays.fill(calls, 0L);
            for (int block = 0; block < parts.total; block++) {
                if (parts.there[block] && parts.owner[block] != function) addCalls(block, function);
            }
            int found = -1;
            for (int caller = 0; caller < FUNCTIONS; caller++) {
                if (calls[caller] > 0 && (found < 0 || calls[caller] > calls[found])) found = caller;
            }
            return found;
        }

        private void addCalls(int block, int function) {
            for (int op = parts.opStart[block]; op < parts.opEnd(block); op++) {
                if (parts.calleeOf(op) == function) calls[parts.owner[block]] += profile.weights[block];
            }
        }

        /** Rows stand by weights; each is told here by the function that weighs most, or is the least. */
        private int lineUp() {
            int rows = 0;
            for (int index = 0; index < held; index++) {
                int function = sequence[index];
                if (isLeastOfRow(function)) {
                    queue[rows] = function;
                    rows++;
                }
            }
            for (int index = 0; index < rows; index++) weight[queue[index]] = weightOfRow(rowOf[queue[index]]);
            sortByWeight(queue, rows);
            held = 0;
            for (int index = 0; index < rows; index++) {
                int row = rowOf[queue[index]];
                for (int place = 0; place < rowLength[row]; place++) {
                    sequence[held] = rowMembers[row * FUNCTIONS + place];
                    held++;
                }
            }
            return rows;
        }

        private boolean isLeastOfRow(int function) {
            int row = rowOf[function];
            for (int index = 0; index < rowLength[row]; index++) {
                if (rowMembers[row * FUNCTIONS + index] < function) return false;
            }
            return true;
        }

        private int weightOfRow(int row) {
            int most = 0;
            for (int index = 0; index < rowLength[row]; index++) {
                most = Math.max(most, profile.weights[parts.first[rowMembers[row * FUNCTIONS + index]]]);
            }
            return most;
        }
    }

    /** Threads, drops and folds blocks. */
    private static final class Alterer {
        private final Blocks parts;
        private final int[] met = new int[BYTES];
        private int mark = 0;
        private final int[] queue = new int[BYTES];
        private int waiting = 0;
        private final int[] kinds = new int[BYTES];
        private final int[] nextKinds = new int[BYTES];
        /** By kinds: the first block of that kind. */
        private final int[] models = new int[BYTES];

        private Alterer(Blocks parts) {
            this.parts = parts;
        }

        private int threadAll() {
            int changed = 0;
            for (int block = 0; block < parts.total; block++) {
                for (int slot = parts.slotStart[block]; slot <= parts.lastSlot(block); slot++) {
                    int goal = parts.target[slot];
                    if (parts.there[block] && goal >= 0) {
                        parts.target[slot] = threaded(goal);
                        if (parts.target[slot] != goal) changed++;
                    }
                }
            }
            return changed;
        }

        private boolean isPassedBy(int block) {
            return parts.opCount[block] == 0 && parts.ending[block] == 'g';
        }

        private int threaded(int goal) {
            int block = goal;
            mark++;
            for (int step = 0; step < BYTES && isPassedBy(block); step++) {
                met[block] = mark;
                int to = parts.target[parts.slotStart[block]];
                if (to < 0 || met[to] == mark) return goal;
                block = to;
            }
            return block;
        }

        private int dropAll() {
            mark++;
            waiting = 0;
            for (int function = 0; function < parts.image.functionCount; function++) {
                if (parts.hasBlocks(function)) reach(parts.first[function]);
            }
            for (int index = 0; index < parts.total && index < waiting; index++) reachFrom(queue[index]);
            int taken = 0;
            for (int block = 0; block < parts.total; block++) {
                if (parts.there[block] && met[block] != mark) {
                    parts.there[block] = false;
                    taken++;
                }
            }
            for (int block = 0; block < parts.total; block++) {
                if (parts.guard[block] >= 0 && !parts.there[parts.guard[block]]) parts.guard[block] = -1;
            }
            return taken;
        }

        private void reach(int block) {
            if (block < 0 || met[block] == mark || waiting >= BYTES) return;
            met[block] = mark;
            queue[waiting] = block;
            waiting++;
        }

        private void reachFrom(int block) {
            for (int slot = parts.slotStart[block]; slot <= parts.lastSlot(block); slot++) reach(parts.target[slot]);
            if (mayThrow(block)) reach(parts.guard[block]);
        }

        private boolean mayThrow(int block) {
            if (parts.ending[block] == 't') return true;
            for (int op = parts.opStart[block]; op < parts.opEnd(block); op++) {
                char sign = parts.image.signAt(parts.opAddress[op]);
                if (sign == 'c' || sign == 'f') return true;
            }
            return false;
        }

        /** Blocks are of one kind until something tells them apart; functions are alike if their first blocks are. */
        private int foldAll() {
            Arrays.fill(kinds, 0);
            int many = 0;
            for (int round = 0; round <= BYTES; round++) {
                int found = tellApart();
                System.arraycopy(nextKinds, 0, kinds, 0, parts.total);
                if (found == many) break;
                many = found;
            }
            int folded = 0;
            for (int function = 1; function < parts.image.functionCount; function++) {
                if (parts.hasBlocks(function) && isFolded(function)) folded++;
            }
            for (int function = 0; function < parts.image.functionCount; function++) {
                parts.same[function] = parts.same[parts.same[function]];
            }
            return folded;
        }

        private int tellApart() {
            int found = 0;
            for (int block = 0; block < parts.total; block++) {
                if (parts.there[block]) {
                    int kind = 0;
                    while (kind < found && !areLike(block, models[kind])) kind++;
                    if (kind == found) {
                        models[found] = block;
                        found++;
                    }
                    nextKinds[block] = kind;
                }
            }
            return found;
        }

        private boolean areLike(int block, int other) {
            if (kinds[block] != kinds[other] || parts.opCount[block] != parts.opCount[other]) return false;
            return endAlike(block, other) && opsAreLike(block, other);
        }

        private int kindOf(int block) {
            return block < 0 ? -1 : kinds[block];
        }

        private boolean endAlike(int block, int other) {
            if (parts.ending[block] != parts.ending[other] || parts.slotCount[block] != parts.slotCount[other]) {
                return false;
            }
            if (endRegister(block) != endRegister(other)) return false;
            if (kindOf(parts.guard[block]) != kindOf(parts.guard[other])) return false;
            for (int slot = 0; slot < parts.slotCount[block]; slot++) {
                int goal = parts.target[parts.slotStart[block] + slot];
                if (kindOf(goal) != kindOf(parts.target[parts.slotStart[other] + slot])) return false;
            }
            return true;
        }

        private int endRegister(int block) {
            return parts.ending[block] == 't' ? parts.image.registerAt(parts.lastAt[block]) : parts.register[block];
        }

        private boolean opsAreLike(int block, int other) {
            int apart = parts.opStart[other] - parts.opStart[block];
            for (int op = parts.opStart[block]; op < parts.opEnd(block); op++) {
                if (!areLikeOps(op, op + apart)) return false;
            }
            return true;
        }

        private boolean areLikeOps(int op, int other) {
            Image image = parts.image;
            int at = parts.opAddress[op];
            int otherAt = parts.opAddress[other];
            if (image.code[at] != image.code[otherAt]) return false;
            if (parts.opCallee[op] >= 0) return kindOfCallee(op) == kindOfCallee(other);
            return image.lengthAt(at) < 2 || image.code[at + 1] == image.code[otherAt + 1];
        }

        private int kindOfCallee(int op) {
            int callee = parts.calleeOf(op);
            return callee < 0 ? -1 : kindOf(parts.first[callee]);
        }

        private boolean isFolded(int function) {
            for (int other = 0; other < function; other++) {
                if (parts.hasBlocks(other) && kinds[parts.first[other]] == kinds[parts.first[function]]) {
                    parts.same[function] = other;
                    takeAway(function);
                    return true;
                }
            }
            return false;
        }

        private void takeAway(int function) {
            for (int block = 0; block < parts.total; block++) {
                if (parts.owner[block] == function) parts.there[block] = false;
            }
        }
    }

    /** Lays blocks out, and writes a new image of them. */
    private static final class Maker {
        private final Blocks parts;
        private final Profile profile;
        private final Orders orders;
        private final Places places;
        /** All blocks by addresses, piece by piece. */
        private final int[] line = new int[BYTES];
        private int pieceCount = 0;
        private int mainCount = 0;
        private final int[] pieceStart = new int[PIECES + 1];
        private final int[] pieceFunction = new int[PIECES];
        private final int[] pieceBegin = new int[PIECES];
        private final int[] pieceEnd = new int[PIECES];
        private final int[] address = new int[BYTES];
        private final int[] bodySize = new int[BYTES];
        /** The jump on a condition, '-' without one, and the plain jump behind it, to -1 without one. */
        private final char[] jumpSign = new char[BYTES];
        private final int[] jumpTo = new int[BYTES];
        private final int[] lastTo = new int[BYTES];
        private final boolean[] isJumpLong = new boolean[BYTES];
        private final boolean[] isLastLong = new boolean[BYTES];

        private Maker(Blocks parts, Profile profile, Orders orders, Places places) {
            this.parts = parts;
            this.profile = profile;
            this.orders = orders;
            this.places = places;
        }

        /** Returns how many bytes there are. */
        private int layOut(int aligning, boolean isSplit) {
            profile.fillWeights();
            pieceCount = 0;
            pieceStart[0] = 0;
            for (int index = 0; index < places.held; index++) addPiece(places.sequence[index], isSplit, false);
            mainCount = pieceCount;
            for (int index = 0; index < places.held; index++) {
                if (isSplit) addPiece(places.sequence[index], true, true);
            }
            for (int piece = 0; piece < pieceCount; piece++) planPiece(piece);
            int bytes = lay(aligning);
            for (int round = 0; round < MANY && widens(); round++) bytes = lay(aligning);
            return bytes;
        }

        private void addPiece(int function, boolean isSplit, boolean isCold) {
            boolean isLeaving = isSplit && hasWeight(function);
            int from = pieceStart[pieceCount];
            int many = from;
            for (int place = 0; place < orders.length[function]; place++) {
                int block = orders.row[orders.start[function] + place];
                boolean isLeft = isLeaving && profile.weights[block] == 0 && block != parts.first[function];
                if (isLeft == isCold) {
                    line[many] = block;
                    many++;
                }
            }
            if (many == from || pieceCount >= PIECES) return;
            pieceFunction[pieceCount] = function;
            pieceCount++;
            pieceStart[pieceCount] = many;
        }

        private boolean hasWeight(int function) {
            for (int place = 0; place < orders.length[function]; place++) {
                if (profile.weights[orders.row[orders.start[function] + place]] > 0) return true;
            }
            return false;
        }

        private void planPiece(int piece) {
            for (int index = pieceStart[piece]; index < pieceStart[piece + 1]; index++) {
                int block = line[index];
                int next = index + 1 < pieceStart[piece + 1] ? line[index + 1] : -1;
                bodySize[block] = bodyOf(block);
                isJumpLong[block] = false;
                isLastLong[block] = false;
                planJumps(block, next);
            }
        }

        private boolean hasEndOp(int block) {
            return parts.ending[block] != 'g' && parts.ending[block] != 'c';
        }

        private int bodyOf(int block) {
            int size = hasEndOp(block) ? parts.image.lengthAt(parts.lastAt[block]) : 0;
            for (int op = parts.opStart[block]; op < parts.opEnd(block); op++) {
                size += parts.image.lengthAt(parts.opAddress[op]);
            }
            return size;
        }

        private void planJumps(int block, int next) {
            char end = parts.ending[block];
            int zero = parts.target[parts.slotStart[block]];
            int other = parts.target[parts.lastSlot(block)];
            jumpSign[block] = '-';
            jumpTo[block] = -1;
            lastTo[block] = -1;
            if (end == 'c' && zero != other) {
                jumpSign[block] = zero == next ? 'y' : 'z';
                jumpTo[block] = zero == next ? other : zero;
                if (zero != next && other != next) lastTo[block] = other;
            } else if ((end == 'g' || end == 'c' || end == 'w') && other != next) {
                lastTo[block] = other;
            }
        }

        private int jumpSize(int block) {
            if (jumpSign[block] == '-') return 0;
            return isJumpLong[block] ? 3 : 2;
        }

        private int lastSize(int block) {
            if (lastTo[block] < 0) return 0;
            return isLastLong[block] ? 3 : 2;
        }

        private int lay(int aligning) {
            int at = 0;
            for (int piece = 0; piece < pieceCount; piece++) {
                if (piece < mainCount) at = at + aligning - 1 & -aligning;
                pieceBegin[piece] = at;
                for (int index = pieceStart[piece]; index < pieceStart[piece + 1]; index++) {
                    int block = line[index];
                    address[block] = at;
                    at += bodySize[block] + jumpSize(block) + lastSize(block);
                }
                pieceEnd[piece] = at;
            }
            return at;
        }

        /** Lets all jumps become long whose ways do not fit; tells whether there were some. */
        private boolean widens() {
            boolean isWider = false;
            for (int index = 0; index < pieceStart[pieceCount]; index++) {
                int block = line[index];
                int end = address[block] + bodySize[block] + jumpSize(block);
                int lastEnd = end + lastSize(block);
                if (jumpSize(block) == 2 && !fits(address[jumpTo[block]] - end)) {
                    isJumpLong[block] = true;
                    isWider = true;
                }
                if (lastSize(block) == 2 && !fits(address[lastTo[block]] - lastEnd)) {
                    isLastLong[block] = true;
                    isWider = true;
                }
            }
            return isWider;
        }

        private static boolean fits(int way) {
            return way >= -128 && way <= 127;
        }

        private int guardRows() {
            return findGuards(null);
        }

        /** Finds the rows of blocks with like guards, and adds them to an image, if there is one. */
        private int findGuards(Image image) {
            int rows = 0;
            for (int piece = 0; piece < pieceCount; piece++) {
                int end = pieceStart[piece + 1];
                int from = pieceStart[piece];
                for (int index = from + 1; index <= end; index++) {
                    int at = parts.guard[line[from]];
                    if (index == end || parts.guard[line[index]] != at) {
                        int to = index == end ? pieceEnd[piece] : address[line[index]];
                        if (at >= 0 && to > address[line[from]]) {
                            if (image != null) image.addGuard(address[line[from]], to, address[at]);
                            rows++;
                        }
                        from = index;
                    }
                }
            }
            return rows;
        }

        private void writeTo(Image image) {
            image.empty();
            for (int piece = 0; piece < pieceCount; piece++) {
                for (int step = 0; step < SMALL && image.bytes < pieceBegin[piece]; step++) image.put(0);
                for (int index = pieceStart[piece]; index < pieceStart[piece + 1]; index++) {
                    writeBlock(image, line[index]);
                }
                image.addPiece(pieceFunction[piece], pieceBegin[piece], pieceEnd[piece]);
            }
            image.functionCount = parts.image.functionCount;
            for (int function = 0; function < image.functionCount; function++) {
                image.begin[function] = addressOfFunction(function);
            }
            writeTables(image);
            findGuards(image);
        }

        private int addressOfFunction(int function) {
            int first = parts.first[parts.same[function]];
            return first < 0 ? 0 : address[first];
        }

        private void writeBlock(Image image, int block) {
            for (int op = parts.opStart[block]; op < parts.opEnd(block); op++) {
                int callee = parts.calleeOf(op);
                if (callee >= 0) image.putLongWay(Image.headOf('c', 0), addressOfFunction(callee));
                else copyOp(image, parts.opAddress[op]);
            }
            if (hasEndOp(block)) copyOp(image, parts.lastAt[block]);
            if (jumpSign[block] != '-') {
                writeJump(image, block, jumpSign[block], jumpTo[block], isJumpLong[block]);
            }
            if (lastTo[block] >= 0) writeJump(image, block, 'j', lastTo[block], isLastLong[block]);
        }

        private void copyOp(Image image, int at) {
            int length = parts.image.lengthAt(at);
            for (int index = 0; index < length; index++) image.put(parts.image.code[at + index]);
        }

        private void writeJump(Image image, int block, char sign, int to, boolean isLong) {
            if (isLong) image.putLongJump(sign, parts.register[block], address[to]);
            else image.putShortJump(sign, parts.register[block], address[to]);
        }

        private void writeTables(Image image) {
            for (int index = 0; index < pieceStart[pieceCount]; index++) {
                int block = line[index];
                int table = parts.ending[block] == 'w' ? parts.image.operandAt(parts.lastAt[block]) : TABLES;
                if (table < TABLES) {
                    image.tableSize[table] = Math.min(TABLE_LABELS, parts.slotCount[block] - 1);
                    for (int slot = 0; slot < image.tableSize[table]; slot++) {
                        int to = parts.target[parts.slotStart[block] + slot];
                        image.tables[table * TABLE_LABELS + slot] = address[to];
                    }
                }
            }
        }
    }
}
