import java.math.BigInteger;
import java.util.ArrayDeque;
import java.util.ArrayList;
import java.util.Arrays;
import java.util.Collections;
import java.util.Deque;
import java.util.HashMap;
import java.util.HashSet;
import java.util.List;
import java.util.Map;
import java.util.NoSuchElementException;
import java.util.Set;
import java.util.TreeMap;

/** The whole face once more, from the document alone, in the plainest form and with no thought of speed. */
final class Model {
    private record Op(char sign, int register, int number) {
    }

    /** What stands at an address: sign, register, the byte behind the first one, length, and where its way goes. */
    private record Code(char sign, int register, int operand, int length, int goal) {
    }

    private static final class Function {
        final List<Op> ops = new ArrayList<>();
        final Map<Integer, Integer> labels = new HashMap<>();
    }

    private static final class Picture {
        final List<Integer> code = new ArrayList<>();
        final List<Integer> begins = new ArrayList<>();
        final List<int[]> pieces = new ArrayList<>();
        final List<List<Integer>> tables = List.of(new ArrayList<>(), new ArrayList<>(), new ArrayList<>(), new ArrayList<>());
        final List<int[]> guards = new ArrayList<>();
    }

    private static final class Block {
        int function;
        int begin;
        int last;
        boolean isThere = true;
        char end;
        int register = -1;
        final List<Integer> ops = new ArrayList<>();
        final List<Integer> slots = new ArrayList<>();
        final List<Integer> counts = new ArrayList<>();
        final List<Integer> flows = new ArrayList<>();
        boolean hasWay;
        int wayCount;
        int wayFlow;
        int guard = -1;
    }

    private static final class Run {
        final List<Integer> prints = new ArrayList<>();
        char end = '-';
        int works;
        int jumps;
        int taken;
        int misses;
        int deepest;
        int events;
    }

    private List<Function> functions = new ArrayList<>();
    private List<List<Integer>> tables = new ArrayList<>();
    private int[] tableOwners = new int[4];
    private List<int[]> guards = new ArrayList<>();
    private Picture old;
    private Picture made;
    private final List<Integer> numbers = new ArrayList<>();
    private Run last = new Run();
    private boolean isApart;
    private char fault = '-';
    private int faultAt;
    private final List<Block> blocks = new ArrayList<>();
    private int[] same = new int[0];
    private final List<List<Integer>> orders = new ArrayList<>();
    private final List<Integer> placed = new ArrayList<>();

    Model() {
        wipe();
    }

    // draft

    int function() {
        if (functions.size() == 8) throw new IllegalStateException();
        functions.add(new Function());
        return functions.size() - 1;
    }

    private Function current() {
        if (functions.isEmpty()) throw new IllegalStateException();
        return functions.get(functions.size() - 1);
    }

    private static void within(int number, int least, int most) {
        if (number < least || number > most) throw new IllegalArgumentException();
    }

    int op(char sign, int register, int number) {
        if ("sabmpdzyjwcftrhn".indexOf(sign) == -1) throw new IllegalArgumentException();
        boolean hasRegister = "sabmpdzywft".indexOf(sign) != -1;
        boolean hasNumber = "sabmzyjwc".indexOf(sign) != -1;
        if (hasRegister) within(register, 0, 7);
        if (sign == 's') within(number, 0, 255);
        if ("abmc".indexOf(sign) != -1) within(number, 0, 7);
        if ("zyj".indexOf(sign) != -1) within(number, 0, 9);
        if (sign == 'w') within(number, 0, 3);
        List<Op> ops = current().ops;
        if (ops.size() == 40) throw new IllegalStateException();
        ops.add(new Op(sign, hasRegister ? register : 0, hasNumber ? number : 0));
        return ops.size();
    }

    int label(int label) {
        within(label, 0, 9);
        Function function = current();
        if (function.labels.containsKey(label)) throw new IllegalStateException();
        function.labels.put(label, function.ops.size());
        return function.ops.size();
    }

    int table(int table, int label) {
        within(table, 0, 3);
        within(label, 0, 9);
        current();
        List<Integer> labels = tables.get(table);
        if (!labels.isEmpty() && tableOwners[table] != functions.size() - 1) throw new IllegalStateException();
        if (labels.size() == 5) throw new IllegalStateException();
        tableOwners[table] = functions.size() - 1;
        labels.add(label);
        return labels.size();
    }

    int guard(int from, int to, int at) {
        within(from, 0, 9);
        within(to, 0, 9);
        within(at, 0, 9);
        current();
        if (guards.size() == 8) throw new IllegalStateException();
        guards.add(new int[] {functions.size() - 1, from, to, at});
        return guards.size();
    }

    int wipe() {
        int were = functions.size();
        functions = new ArrayList<>();
        guards = new ArrayList<>();
        tables = List.of(new ArrayList<>(), new ArrayList<>(), new ArrayList<>(), new ArrayList<>());
        tableOwners = new int[4];
        return were;
    }

    private int addressOf(List<List<Integer>> addresses, int function, int label) {
        Integer place = functions.get(function).labels.get(label);
        if (place == null) throw new UnsupportedOperationException();
        return addresses.get(function).get(place);
    }

    int link() {
        if (functions.isEmpty()) throw new UnsupportedOperationException();
        List<List<Integer>> addresses = new ArrayList<>();
        int address = 0;
        for (Function function : functions) {
            if (function.ops.isEmpty()) throw new UnsupportedOperationException();
            List<Integer> row = new ArrayList<>();
            for (Op op : function.ops) {
                row.add(address);
                address += "zyjc".indexOf(op.sign) >= 0 ? 3 : "sabmw".indexOf(op.sign) >= 0 ? 2 : 1;
            }
            row.add(address);
            addresses.add(row);
        }
        Picture picture = new Picture();
        for (int function = 0; function < functions.size(); function++) {
            List<Integer> row = addresses.get(function);
            for (Op op : functions.get(function).ops) putOp(picture.code, op, function, addresses);
            picture.begins.add(row.get(0));
            picture.pieces.add(new int[] {function, row.get(0), row.get(row.size() - 1)});
        }
        for (int table = 0; table < 4; table++) {
            for (int label : tables.get(table)) {
                picture.tables.get(table).add(addressOf(addresses, tableOwners[table], label));
            }
        }
        for (int[] guard : guards) {
            picture.guards.add(new int[] {addressOf(addresses, guard[0], guard[1]),
                addressOf(addresses, guard[0], guard[2]), addressOf(addresses, guard[0], guard[3])});
        }
        old = picture;
        made = null;
        leave();
        return old.code.size();
    }

    private void leave() {
        isApart = false;
        fault = '-';
    }

    private void putOp(List<Integer> code, Op op, int function, List<List<Integer>> addresses) {
        if (op.sign == 'c') {
            if (op.number >= functions.size()) throw new UnsupportedOperationException();
            putWay(code, 8 * 11, addresses.get(op.number).get(0), 2);
        } else if ("zyj".indexOf(op.sign) >= 0) {
            putJump(code, op.sign, op.register, addressOf(addresses, function, op.number), true);
        } else if (op.sign == 'r' || op.sign == 'h') {
            code.add(8 * 10 + (op.sign == 'r' ? 2 : 3));
        } else {
            code.add(8 * "nsabmp......wtdf".indexOf(op.sign) + op.register);
            if ("sabmw".indexOf(op.sign) >= 0) code.add(op.number);
        }
    }

    private static void putJump(List<Integer> code, char sign, int register, int goal, boolean isLong) {
        int head = sign == 'j' ? 8 * 10 + (isLong ? 1 : 0) : 8 * ((sign == 'z' ? 6 : 7) + (isLong ? 2 : 0)) + register;
        putWay(code, head, goal, isLong ? 2 : 1);
    }

    private static void putWay(List<Integer> code, int head, int goal, int bytes) {
        int way = goal - (code.size() + 1 + bytes);
        code.add(head);
        if (bytes == 2) code.add(Math.floorMod(Math.floorDiv(way, 256), 256));
        code.add(Math.floorMod(way, 256));
    }

    // images

    private Picture picture(int image) {
        if (image != 0 && image != 1) throw new IndexOutOfBoundsException();
        return image == 0 ? old : made;
    }

    private static <T> T element(List<T> list, int index) {
        if (index < 0 || index >= list.size()) throw new NoSuchElementException();
        return list.get(index);
    }

    private Picture madePicture(int image) {
        Picture picture = picture(image);
        if (picture == null) throw new NoSuchElementException();
        return picture;
    }

    int size(int image) {
        Picture picture = picture(image);
        return picture == null ? 0 : picture.code.size();
    }

    int byteAt(int image, int address) {
        return element(madePicture(image).code, address);
    }

    int poke(int address, int value) {
        int former = element(madePicture(0).code, address);
        within(value, 0, 255);
        old.code.set(address, value);
        made = null;
        leave();
        return former;
    }

    int begins(int image, int function) {
        return element(madePicture(image).begins, function);
    }

    private static int thing(int[] row, String names, char what) {
        if (names.indexOf(what) < 0) throw new IllegalArgumentException();
        return row[names.indexOf(what)];
    }

    int piece(int image, int index, char what) {
        return thing(element(madePicture(image).pieces, index), "fbe", what);
    }

    int tableAt(int image, int table, int index) {
        return element(element(madePicture(image).tables, table), index);
    }

    int guardAt(int image, int index, char what) {
        return thing(element(madePicture(image).guards, index), "fua", what);
    }

    int adopt() {
        if (made == null) throw new NoSuchElementException();
        old = made;
        made = null;
        leave();
        return old.code.size();
    }

    private static int byteOf(List<Integer> code, int address) {
        return address < 0 || address >= code.size() ? -1 : code.get(address);
    }

    private static Code read(List<Integer> code, int address) {
        int head = byteOf(code, address);
        if (head < 0) return null;
        int kind = head / 8;
        int low = head % 8;
        int one = byteOf(code, address + 1);
        int two = byteOf(code, address + 2);
        Integer shortGoal = one < 0 ? null : Integer.valueOf(address + 2 + (one > 127 ? one - 256 : one));
        int way = one * 256 + two;
        Integer longGoal = one < 0 || two < 0 ? null : Integer.valueOf(address + 3 + (way > 32767 ? way - 65536 : way));
        switch (kind) {
            case 0: return low == 0 ? new Code('n', 0, 0, 1, -1) : null;
            case 1: return one < 0 ? null : new Code('s', low, one, 2, -1);
            case 2: case 3: case 4: return one < 0 || one > 7 ? null : new Code("abm".charAt(kind - 2), low, one, 2, -1);
            case 5: return new Code('p', low, 0, 1, -1);
            case 6: case 7: return shortGoal == null ? null : new Code("zy".charAt(kind - 6), low, 0, 2, shortGoal);
            case 8: case 9: return longGoal == null ? null : new Code("zy".charAt(kind - 8), low, 0, 3, longGoal);
            case 10:
                if (low == 0) return shortGoal == null ? null : new Code('j', 0, 0, 2, shortGoal);
                if (low == 1) return longGoal == null ? null : new Code('j', 0, 0, 3, longGoal);
                return low > 3 ? null : new Code(low == 2 ? 'r' : 'h', 0, 0, 1, -1);
            case 11: return low != 0 || longGoal == null ? null : new Code('c', 0, 0, 3, longGoal);
            case 12: return one < 0 ? null : new Code('w', low, one, 2, -1);
            case 13: return new Code('t', low, 0, 1, -1);
            case 14: return new Code('d', low, 0, 1, -1);
            case 15: return new Code('f', low, 0, 1, -1);
            default: return null;
        }
    }

    // runs

    int feed(int number) {
        if (numbers.size() == 16) throw new IllegalStateException();
        numbers.add(number);
        return numbers.size();
    }

    int clear() {
        int were = numbers.size();
        numbers.clear();
        return were;
    }

    int run(int image) {
        last = new Runner(madePicture(image), 0).whole();
        return last.works;
    }

    char end() {
        return last.end;
    }

    int prints() {
        return last.prints.size();
    }

    int printAt(int index) {
        return element(last.prints, index);
    }

    int told(char what) {
        return thing(new int[] {last.jumps, last.taken, last.misses, last.deepest}, "jtmd", what);
    }

    /** One run of a picture; with a period it trains. */
    private final class Runner {
        private final Picture picture;
        private final int period;
        private final Run run = new Run();
        private final int[] registers = new int[8];
        private final Deque<Integer> open = new ArrayDeque<>();
        private final Map<Integer, Integer> lines = new HashMap<>();
        private final Set<Integer> since = new HashSet<>();
        private int reads;
        private int address;

        Runner(Picture picture, int period) {
            this.picture = picture;
            this.period = period;
        }

        Run whole() {
            address = picture.begins.get(0);
            wayIn(address);
            while (run.end == '-') step();
            return run;
        }

        private void event(Block block, int slot) {
            if (run.events % period == 0) {
                if (slot < 0) block.wayCount = Math.min(9999, block.wayCount + period);
                else block.counts.set(slot, Math.min(9999, block.counts.get(slot) + period));
            }
            run.events++;
        }

        private void wayIn(int at) {
            if (period == 0) return;
            for (Block block : blocks) if (block.begin == at && block.hasWay) event(block, -1);
        }

        private void gone(int at, int slot) {
            if (period == 0) return;
            for (Block block : blocks) if (block.last == at) event(block, slot);
        }

        private void step() {
            Code code = read(picture.code, address);
            char refusal = refusal(code);
            if (refusal != '-') {
                run.end = refusal;
                return;
            }
            int line = address / 8;
            if (lines.getOrDefault(line % 4, -1) != line) run.misses++;
            lines.put(line % 4, line);
            if ("nzyj".indexOf(code.sign) >= 0) {
                since.add(address);
            } else {
                run.works++;
                since.clear();
            }
            perform(code, address);
        }

        private char refusal(Code code) {
            if (code == null) return 'i';
            if ("nzyj".indexOf(code.sign) >= 0) return since.contains(address) ? 'l' : '-';
            if (run.works == 1000) return 's';
            if (code.sign == 'f' && (registers[code.register] < 0 || registers[code.register] >= picture.begins.size())) return 'x';
            if ((code.sign == 'c' || code.sign == 'f') && open.size() == 12) return 'd';
            return '-';
        }

        private void perform(Code code, int at) {
            int register = code.register;
            address = at + code.length;
            switch (code.sign) {
                case 's': registers[register] = code.operand; break;
                case 'a': registers[register] = registers[register] + registers[code.operand]; break;
                case 'b': registers[register] = registers[register] - registers[code.operand]; break;
                case 'm': registers[register] = registers[register] * registers[code.operand]; break;
                case 'p': run.prints.add(registers[register]); break;
                case 'd': registers[register] = reads < numbers.size() ? numbers.get(reads++) : 0; break;
                case 'z': jump(code, at, registers[register] == 0, registers[register] == 0 ? 0 : 1); return;
                case 'y': jump(code, at, registers[register] != 0, registers[register] == 0 ? 0 : 1); return;
                case 'j': jump(code, at, true, 0); return;
                case 'w': switchBy(code, at, registers[register]); return;
                case 'c': enter(at, code.goal); return;
                case 'f': enter(at, picture.begins.get(registers[register])); return;
                case 't': gone(at, 0); throwIt(at, registers[register]); return;
                case 'r': gone(at, 0); comeBack(); return;
                case 'h': run.end = 'h'; break;
                default: break;
            }
            gone(at, 0);
        }

        private void jump(Code code, int at, boolean goes, int slot) {
            run.jumps++;
            if (goes) {
                run.taken++;
                address = code.goal;
            }
            gone(at, slot);
        }

        private void switchBy(Code code, int at, int index) {
            List<Integer> table = code.operand < 4 ? picture.tables.get(code.operand) : List.of();
            boolean goes = index >= 0 && index < table.size();
            if (goes) address = table.get(index);
            gone(at, goes ? index : table.size());
        }

        private void enter(int at, int goal) {
            open.push(at);
            run.deepest = Math.max(run.deepest, open.size());
            address = goal;
            wayIn(goal);
        }

        private void comeBack() {
            if (open.isEmpty()) {
                run.end = 'r';
                return;
            }
            int call = open.pop();
            address = call + read(picture.code, call).length;
            gone(call, 0);
        }

        private void throwIt(int at, int thrown) {
            int from = at;
            while (true) {
                for (int[] guard : picture.guards) {
                    if (from >= guard[0] && from < guard[1]) {
                        registers[0] = thrown;
                        address = guard[2];
                        wayIn(address);
                        return;
                    }
                }
                if (open.isEmpty()) {
                    run.end = 'u';
                    return;
                }
                from = open.pop();
            }
        }
    }

    // apart

    private final class Reading {
        private final Picture picture;
        /** By addresses of operations: the number of the piece. */
        private final TreeMap<Integer, Integer> pieceOf = new TreeMap<>();

        Reading(Picture picture) {
            this.picture = picture;
        }

        private int functionOf(int address) {
            return pieceOf.containsKey(address) ? picture.pieces.get(pieceOf.get(address))[0] : -1;
        }

        boolean isRefused(char letter, int address) {
            fault = letter;
            faultAt = address;
            return true;
        }

        boolean hasFault() {
            return hasNoOps() || goesWrong() || endsWrong() || guardsWrong();
        }

        private boolean hasNoOps() {
            for (int number = 0; number < picture.pieces.size(); number++) {
                int[] piece = picture.pieces.get(number);
                int at = piece[1];
                while (at < piece[2]) {
                    Code code = read(picture.code, at);
                    if (code == null || at + code.length > piece[2]) return isRefused('o', at);
                    pieceOf.put(at, number);
                    at += code.length;
                }
            }
            return false;
        }

        private boolean goesWrong() {
            Map<Integer, Integer> users = new HashMap<>();
            for (int at : pieceOf.keySet()) {
                Code code = read(picture.code, at);
                if ("zyj".indexOf(code.sign) >= 0 && functionOf(code.goal) != functionOf(at)) return isRefused('j', at);
                if (code.sign == 'c' && !picture.begins.contains(code.goal)) return isRefused('c', at);
                if (code.sign == 'w') {
                    if (code.operand > 3 || picture.tables.get(code.operand).isEmpty()) return isRefused('w', at);
                    int user = users.computeIfAbsent(code.operand, key -> functionOf(at));
                    if (user != functionOf(at)) return isRefused('w', at);
                    for (int goal : picture.tables.get(code.operand)) {
                        if (functionOf(goal) != functionOf(at)) return isRefused('w', at);
                    }
                }
            }
            return false;
        }

        private boolean endsWrong() {
            for (int[] piece : picture.pieces) {
                int at = pieceOf.lowerKey(piece[2]);
                if ("jrht".indexOf(read(picture.code, at).sign) < 0) return isRefused('e', at);
            }
            return false;
        }

        private boolean guardsWrong() {
            for (int[] guard : picture.guards) {
                boolean isWell = pieceOf.containsKey(guard[0]) && pieceOf.containsKey(guard[2]) && guard[0] < guard[1];
                if (isWell) {
                    int number = pieceOf.get(guard[0]);
                    int[] piece = picture.pieces.get(number);
                    boolean isOpOfIt = pieceOf.containsKey(guard[1]) && pieceOf.get(guard[1]) == number;
                    isWell = (isOpOfIt || guard[1] == piece[2]) && functionOf(guard[2]) == piece[0];
                }
                if (!isWell) return isRefused('g', guard[0]);
            }
            return false;
        }

        private Set<Integer> begins() {
            Set<Integer> begins = new HashSet<>();
            for (int[] piece : picture.pieces) begins.add(piece[1]);
            for (int at : pieceOf.keySet()) {
                Code code = read(picture.code, at);
                if ("zyj".indexOf(code.sign) >= 0) begins.add(code.goal);
                if (code.sign == 'w') begins.addAll(picture.tables.get(code.operand));
                if ("zyjwtrh".indexOf(code.sign) >= 0) begins.add(at + code.length);
            }
            for (int[] guard : picture.guards) for (int address : guard) begins.add(address);
            begins.retainAll(pieceOf.keySet());
            return begins;
        }

        void readBlocks() {
            blocks.clear();
            Set<Integer> begins = begins();
            Block block = null;
            for (int at : pieceOf.keySet()) {
                if (begins.contains(at)) {
                    block = new Block();
                    block.begin = at;
                    block.function = functionOf(at);
                    blocks.add(block);
                }
                Code code = read(picture.code, at);
                if ("nzyjwtrh".indexOf(code.sign) < 0) block.ops.add(at);
                block.last = at;
            }
            for (Block each : blocks) readEnd(each);
            for (Block each : blocks) readWays(each);
        }

        private void readEnd(Block block) {
            Code code = read(picture.code, block.last);
            int next = block.last + code.length;
            block.end = "wrht".indexOf(code.sign) >= 0 ? code.sign : "zy".indexOf(code.sign) >= 0 ? 'c' : 'g';
            if (block.end == 'c' || block.end == 'w') block.register = code.register;
            if (code.sign == 'z') addSlots(block, code.goal, next);
            else if (code.sign == 'y') addSlots(block, next, code.goal);
            else if (code.sign == 'j') addSlots(block, code.goal);
            else if (block.end == 'g') addSlots(block, next);
            else if (block.end == 'w') {
                for (int goal : picture.tables.get(code.operand)) addSlots(block, goal);
                addSlots(block, next);
            } else {
                block.slots.add(-1);
            }
            for (int slot = 0; slot < block.slots.size(); slot++) {
                block.counts.add(0);
                block.flows.add(0);
            }
        }

        private void addSlots(Block block, int... goals) {
            for (int goal : goals) block.slots.add(blockAt(goal));
        }

        private void readWays(Block block) {
            for (int[] piece : picture.pieces) {
                if (picture.begins.get(piece[0]) == block.begin) block.hasWay = true;
            }
            for (int[] guard : picture.guards) {
                if (guard[2] == block.begin) block.hasWay = true;
                if (block.guard < 0 && guard[0] <= block.begin && block.begin < guard[1]) block.guard = blockAt(guard[2]);
            }
        }
    }

    private int blockAt(int address) {
        for (int number = 0; number < blocks.size(); number++) if (blocks.get(number).begin == address) return number;
        throw new AssertionError("no block at " + address);
    }

    int apart() {
        if (old == null) throw new NoSuchElementException();
        leave();
        Reading reading = new Reading(old);
        if (reading.hasFault()) return -1;
        reading.readBlocks();
        same = new int[old.begins.size()];
        for (int function = 0; function < same.length; function++) {
            int number = function;
            boolean hasPiece = old.pieces.stream().anyMatch(piece -> piece[0] == number);
            same[function] = hasPiece ? function : old.begins.indexOf(old.begins.get(function));
        }
        isApart = true;
        asRead();
        return blocks.size();
    }

    private void asRead() {
        orders.clear();
        placed.clear();
        for (int function = 0; function < same.length; function++) {
            List<Integer> order = members(function);
            if (same[function] == function) {
                Integer first = firstOf(function);
                order.remove(first);
                order.add(0, first);
                placed.add(function);
            }
            orders.add(order);
        }
        for (Block block : blocks) {
            Collections.fill(block.flows, 0);
            block.wayFlow = 0;
        }
    }

    private List<Integer> members(int function) {
        List<Integer> found = new ArrayList<>();
        for (int number = 0; number < blocks.size(); number++) {
            if (blocks.get(number).isThere && blocks.get(number).function == function) found.add(number);
        }
        return found;
    }

    private int firstOf(int function) {
        return blockAt(old.begins.get(function));
    }

    char fault() {
        return fault;
    }

    int faultAt() {
        if (fault == '-') throw new NoSuchElementException();
        return faultAt;
    }

    private void needsApart() {
        if (!isApart) throw new UnsupportedOperationException();
    }

    private Block blockOf(int block) {
        needsApart();
        if (block < 0 || block >= blocks.size() || !blocks.get(block).isThere) throw new IndexOutOfBoundsException();
        return blocks.get(block);
    }

    private void needsBlocks(int function) {
        needsApart();
        if (function < 0 || function >= same.length || same[function] != function) throw new IndexOutOfBoundsException();
    }

    int blocks() {
        needsApart();
        return blocks.size();
    }

    boolean isThere(int block) {
        needsApart();
        if (block < 0 || block >= blocks.size()) throw new IndexOutOfBoundsException();
        return blocks.get(block).isThere;
    }

    int block(int block, char what) {
        Block of = blockOf(block);
        return thing(new int[] {of.function, of.begin, of.ops.size(), of.slots.size(), of.register, of.guard}, "fbosrg", what);
    }

    char endOf(int block) {
        return blockOf(block).end;
    }

    char opAt(int block, int index) {
        int address = element(blockOf(block).ops, index);
        return read(old.code, address).sign;
    }

    int successor(int block, int slot) {
        return element(blockOf(block).slots, slot);
    }

    // profiles

    int train(int period) {
        needsApart();
        within(period, 1, 9);
        last = new Runner(old, period).whole();
        return last.events;
    }

    private Block blockOfSlot(int block, int slot) {
        Block of = blockOf(block);
        if (slot == -1 && of.hasWay) return of;
        element(of.slots, slot);
        return of;
    }

    int count(int block, int slot, int number) {
        Block of = blockOfSlot(block, slot);
        within(number, 0, 9999);
        int former = counted(block, slot);
        if (slot < 0) of.wayCount = number;
        else of.counts.set(slot, number);
        return former;
    }

    int counted(int block, int slot) {
        Block of = blockOfSlot(block, slot);
        return slot < 0 ? of.wayCount : of.counts.get(slot);
    }

    int flow(int block, int slot) {
        Block of = blockOfSlot(block, slot);
        return slot < 0 ? of.wayFlow : of.flows.get(slot);
    }

    int weight(int block) {
        blockOf(block);
        return weightOf(block);
    }

    private int weightOf(int block) {
        int weight = blocks.get(block).hasWay ? blocks.get(block).wayFlow : 0;
        for (Block from : blocks) {
            for (int slot = 0; slot < from.slots.size(); slot++) {
                if (from.isThere && from.slots.get(slot) == block) weight += from.flows.get(slot);
            }
        }
        return weight;
    }

    int letFlow(int function) {
        needsBlocks(function);
        List<int[]> edges = new ArrayList<>();
        for (int block : members(function)) {
            Block of = blocks.get(block);
            for (int slot = 0; slot < of.slots.size(); slot++) {
                edges.add(new int[] {block, of.slots.get(slot), of.counts.get(slot), block, slot});
            }
        }
        for (int block : members(function)) {
            if (blocks.get(block).hasWay) edges.add(new int[] {-1, block, blocks.get(block).wayCount, block, -1});
        }
        int[] flows = new LeastFlow(edges, blocks.size()).find();
        int changed = 0;
        for (int index = 0; index < flows.length; index++) {
            int[] edge = edges.get(index);
            changed += Math.abs(flows[index] - edge[2]);
            if (edge[4] < 0) blocks.get(edge[3]).wayFlow = flows[index];
            else blocks.get(edge[3]).flows.set(edge[4], flows[index]);
        }
        return changed;
    }

    /**
     * Begins with no flow at all, and goes round by each way that makes the row (sum of what is changed, first flow,
     * second flow, ..) less, until there is none; such rows are told as one number, by great steps.
     */
    private static final class LeastFlow {
        private static final int STEP = 12;
        private final List<int[]> edges;
        private final int nodes;
        private final int[] flows;

        LeastFlow(List<int[]> edges, int blocks) {
            this.edges = edges;
            this.nodes = blocks + 1;
            this.flows = new int[edges.size()];
        }

        private int node(int block) {
            return block < 0 ? nodes - 1 : block;
        }

        private BigInteger price(int edge, boolean isMore) {
            int over = flows[edge] - edges.get(edge)[2];
            int first = isMore ? (over < 0 ? -1 : 1) : (over > 0 ? -1 : 1);
            BigInteger rest = BigInteger.ONE.shiftLeft(STEP * (edges.size() - edge));
            return BigInteger.valueOf(first).shiftLeft(STEP * (edges.size() + 1)).add(isMore ? rest : rest.negate());
        }

        private int room(int edge, boolean isMore) {
            int over = flows[edge] - edges.get(edge)[2];
            if (isMore) return over < 0 ? -over : 1000000;
            return over > 0 ? over : flows[edge];
        }

        int[] find() {
            while (goesRound()) continue;
            return flows;
        }

        private boolean goesRound() {
            BigInteger[] price = new BigInteger[nodes];
            Arrays.fill(price, BigInteger.ZERO);
            int[] by = new int[nodes];
            Arrays.fill(by, Integer.MIN_VALUE);
            int changed = -1;
            for (int pass = 0; pass <= nodes; pass++) {
                changed = -1;
                for (int arc = 0; arc < 2 * flows.length; arc++) {
                    boolean isMore = arc % 2 == 0;
                    if (room(arc / 2, isMore) == 0) continue;
                    BigInteger there = price[tail(arc)].add(price(arc / 2, isMore));
                    if (there.compareTo(price[head(arc)]) < 0) {
                        price[head(arc)] = there;
                        by[head(arc)] = arc;
                        changed = head(arc);
                    }
                }
                if (changed < 0) return false;
            }
            int at = changed;
            for (int step = 0; step < nodes; step++) at = tail(by[at]);
            push(by, at);
            return true;
        }

        private int tail(int arc) {
            int[] edge = edges.get(arc / 2);
            return node(arc % 2 == 0 ? edge[0] : edge[1]);
        }

        private int head(int arc) {
            int[] edge = edges.get(arc / 2);
            return node(arc % 2 == 0 ? edge[1] : edge[0]);
        }

        private void push(int[] by, int begin) {
            int much = Integer.MAX_VALUE;
            int at = begin;
            do {
                much = Math.min(much, room(by[at] / 2, by[at] % 2 == 0));
                at = tail(by[at]);
            } while (at != begin);
            do {
                flows[by[at] / 2] += by[at] % 2 == 0 ? much : -much;
                at = tail(by[at]);
            } while (at != begin);
        }
    }

    // altering

    private boolean isPassed(int block) {
        return blocks.get(block).ops.isEmpty() && blocks.get(block).end == 'g';
    }

    int thread() {
        needsApart();
        List<List<Integer>> goals = new ArrayList<>();
        int changed = 0;
        for (Block block : blocks) {
            List<Integer> row = new ArrayList<>();
            for (int goal : block.slots) {
                int to = goal < 0 || !block.isThere ? goal : threaded(goal);
                if (to != goal) changed++;
                row.add(to);
            }
            goals.add(row);
        }
        for (int number = 0; number < blocks.size(); number++) {
            for (int slot = 0; slot < goals.get(number).size(); slot++) {
                blocks.get(number).slots.set(slot, goals.get(number).get(slot));
            }
        }
        asRead();
        return changed;
    }

    private int threaded(int goal) {
        Set<Integer> come = new HashSet<>();
        int at = goal;
        while (isPassed(at)) {
            if (!come.add(at)) return goal;
            at = blocks.get(at).slots.get(0);
        }
        return at;
    }

    int drop() {
        needsApart();
        Set<Integer> reached = new HashSet<>();
        Deque<Integer> waiting = new ArrayDeque<>();
        for (int function = 0; function < same.length; function++) {
            if (same[function] == function) waiting.add(firstOf(function));
        }
        while (!waiting.isEmpty()) {
            int number = waiting.pop();
            if (number < 0 || !reached.add(number)) continue;
            Block block = blocks.get(number);
            waiting.addAll(block.slots);
            boolean throwsOn = block.end == 't';
            for (int at : block.ops) throwsOn |= "cf".indexOf(read(old.code, at).sign) >= 0;
            if (throwsOn) waiting.add(block.guard);
        }
        int taken = 0;
        for (int number = 0; number < blocks.size(); number++) {
            if (blocks.get(number).isThere && !reached.contains(number)) {
                blocks.get(number).isThere = false;
                taken++;
            }
        }
        for (Block block : blocks) if (block.guard >= 0 && !blocks.get(block.guard).isThere) block.guard = -1;
        asRead();
        return taken;
    }

    /** The function that is called by an operation, as it is the same now. */
    private int called(Code code) {
        int function = blocks.get(blockAt(code.goal)).function;
        while (same[function] != function) function = same[function];
        return function;
    }

    int fold() {
        needsApart();
        int many = blocks.size();
        boolean[][] alike = new boolean[many + 1][many + 1];
        for (boolean[] row : alike) Arrays.fill(row, true);
        for (int block = 0; block < many; block++) {
            alike[block][many] = false;
            alike[many][block] = false;
        }
        boolean isChanged = true;
        while (isChanged) {
            isChanged = false;
            for (int one = 0; one < many; one++) {
                for (int other = 0; other < many; other++) {
                    boolean areThere = blocks.get(one).isThere && blocks.get(other).isThere;
                    if (areThere && alike[one][other] && !areLike(blocks.get(one), blocks.get(other), alike)) {
                        alike[one][other] = false;
                        isChanged = true;
                    }
                }
            }
        }
        int folded = 0;
        int[] to = same.clone();
        for (int function = 0; function < same.length; function++) {
            for (int other = 0; other < function && to[function] == function && same[function] == function; other++) {
                if (same[other] == other && alike[firstOf(function)][firstOf(other)]) to[function] = other;
            }
        }
        for (int function = 0; function < same.length; function++) {
            if (to[function] != same[function]) {
                folded++;
                for (int block : members(function)) blocks.get(block).isThere = false;
            }
        }
        for (int function = 0; function < same.length; function++) same[function] = to[to[function]];
        asRead();
        return folded;
    }

    private static boolean pair(boolean[][] alike, int one, int other) {
        int outside = alike.length - 1;
        return alike[one < 0 ? outside : one][other < 0 ? outside : other];
    }

    private boolean areLike(Block one, Block other, boolean[][] alike) {
        if (one.end != other.end || one.slots.size() != other.slots.size() || one.ops.size() != other.ops.size()) return false;
        if ("cwt".indexOf(one.end) >= 0 && read(old.code, one.last).register != read(old.code, other.last).register) return false;
        if (!pair(alike, one.guard, other.guard)) return false;
        for (int slot = 0; slot < one.slots.size(); slot++) {
            if (!pair(alike, one.slots.get(slot), other.slots.get(slot))) return false;
        }
        for (int index = 0; index < one.ops.size(); index++) {
            Code code = read(old.code, one.ops.get(index));
            Code like = read(old.code, other.ops.get(index));
            if (code.sign != like.sign || code.register != like.register || code.operand != like.operand) return false;
            if (code.sign == 'c' && !alike[firstOf(called(code))][firstOf(called(like))]) return false;
        }
        return true;
    }

    int same(int function) {
        needsApart();
        if (function < 0 || function >= same.length) throw new IndexOutOfBoundsException();
        return same[function];
    }

    // orders

    private int gain(int ahead, int behind) {
        Block block = blocks.get(ahead);
        int gain = 0;
        for (int slot = 0; slot < block.slots.size(); slot++) {
            boolean counts = block.end == 'g' || block.end == 'c' || block.end == 'w' && slot == block.slots.size() - 1;
            if (counts && block.slots.get(slot) == behind) gain += block.flows.get(slot);
        }
        return gain;
    }

    private int gainOf(List<Integer> order) {
        int gain = 0;
        for (int index = 1; index < order.size(); index++) gain += gain(order.get(index - 1), order.get(index));
        return gain;
    }

    int order(int function) {
        needsBlocks(function);
        List<Integer> asRead = members(function);
        Integer first = firstOf(function);
        asRead.remove(first);
        asRead.add(0, first);
        List<Integer> order = asRead.size() <= 8 ? bestOf(asRead) : joined(asRead);
        orders.set(function, order);
        return gainOf(order);
    }

    private List<Integer> bestOf(List<Integer> asRead) {
        List<List<Integer>> best = new ArrayList<>();
        best.add(asRead);
        tryAll(new ArrayList<>(asRead.subList(0, 1)), asRead, best);
        return best.get(0);
    }

    private void tryAll(List<Integer> begun, List<Integer> all, List<List<Integer>> best) {
        if (begun.size() == all.size()) {
            if (gainOf(begun) > gainOf(best.get(0))) best.set(0, new ArrayList<>(begun));
            return;
        }
        for (Integer block : all) {
            if (begun.contains(block)) continue;
            begun.add(block);
            tryAll(begun, all, best);
            begun.remove(block);
        }
    }

    private List<Integer> joined(List<Integer> asRead) {
        Integer first = asRead.get(0);
        List<int[]> pairs = new ArrayList<>();
        for (int ahead : asRead) {
            for (int behind : asRead) {
                if (ahead != behind && gain(ahead, behind) > 0) pairs.add(new int[] {-gain(ahead, behind), ahead, behind});
            }
        }
        pairs.sort(Arrays::compare);
        List<List<Integer>> rows = new ArrayList<>();
        for (Integer block : asRead) rows.add(new ArrayList<>(List.of(block)));
        for (int[] pair : pairs) {
            List<Integer> row = rowOf(rows, pair[1]);
            List<Integer> next = rowOf(rows, pair[2]);
            if (row == next || pair[2] == first || next.get(0) != pair[2] || row.get(row.size() - 1) != pair[1]) continue;
            row.addAll(next);
            rows.removeIf(each -> each == next);
        }
        rows.sort((one, other) -> Arrays.compare(rank(one, first), rank(other, first)));
        List<Integer> order = new ArrayList<>();
        for (List<Integer> row : rows) order.addAll(row);
        order = moved(order);
        return gainOf(order) < gainOf(asRead) ? asRead : order;
    }

    private static List<Integer> rowOf(List<List<Integer>> rows, int block) {
        for (List<Integer> row : rows) if (row.contains(block)) return row;
        throw new AssertionError("no row");
    }

    private int[] rank(List<Integer> row, int first) {
        int weight = 0;
        for (int block : row) weight = Math.max(weight, weightOf(block));
        return new int[] {row.contains(first) ? 0 : 1, -weight, row.get(0)};
    }

    private List<Integer> moved(List<Integer> begun) {
        List<Integer> order = begun;
        while (true) {
            List<Integer> best = null;
            List<Integer> sorted = new ArrayList<>(order);
            Collections.sort(sorted);
            for (Integer block : sorted) {
                if (block.equals(order.get(0))) continue;
                for (int place = 1; place < order.size(); place++) {
                    List<Integer> other = new ArrayList<>(order);
                    other.remove(block);
                    other.add(place, block);
                    if (gainOf(other) > gainOf(best == null ? order : best)) best = other;
                }
            }
            if (best == null) return order;
            order = best;
        }
    }

    int orderAt(int function, int index) {
        needsBlocks(function);
        return element(orders.get(function), index);
    }

    int gain(int function) {
        needsBlocks(function);
        return gainOf(orders.get(function));
    }

    int place() {
        needsApart();
        List<Integer> own = new ArrayList<>();
        List<List<Integer>> rows = new ArrayList<>();
        for (int function = 0; function < same.length; function++) {
            if (same[function] != function) continue;
            own.add(function);
            rows.add(new ArrayList<>(List.of(function)));
        }
        own.sort((one, other) -> weightOf(firstOf(other)) - weightOf(firstOf(one)));
        for (int function : own) {
            int caller = callerOf(function);
            if (caller < 0) continue;
            List<Integer> row = rowOf(rows, caller);
            List<Integer> called = rowOf(rows, function);
            if (row == called || bytesOf(row) + bytesOf(called) > 60) continue;
            row.addAll(called);
            rows.removeIf(each -> each == called);
        }
        rows.sort((one, other) -> Arrays.compare(rankOfRow(one), rankOfRow(other)));
        placed.clear();
        for (List<Integer> row : rows) placed.addAll(row);
        return rows.size();
    }

    private int[] rankOfRow(List<Integer> row) {
        int weight = 0;
        for (int function : row) weight = Math.max(weight, weightOf(firstOf(function)));
        return new int[] {-weight, Collections.min(row)};
    }

    private int bytesOf(List<Integer> row) {
        int bytes = 0;
        for (int[] piece : old.pieces) if (row.contains(piece[0])) bytes += piece[2] - piece[1];
        return bytes;
    }

    private int callerOf(int function) {
        int best = -1;
        long most = 0;
        for (int caller = 0; caller < same.length; caller++) {
            long sum = 0;
            for (int block : members(caller)) {
                for (int at : blocks.get(block).ops) {
                    Code code = read(old.code, at);
                    if (code.sign == 'c' && called(code) == function) sum += weightOf(block);
                }
            }
            if (caller != function && sum > most) {
                most = sum;
                best = caller;
            }
        }
        return best;
    }

    int placed(int index) {
        needsApart();
        return element(placed, index);
    }

    // making

    int make(int aligning, boolean isSplit) {
        needsApart();
        if (!List.of(1, 2, 4, 8).contains(aligning)) throw new IllegalArgumentException();
        Picture picture = new Making(aligning, isSplit).whole();
        if (picture.code.size() > 600 || picture.guards.size() > 24) throw new IllegalStateException();
        made = picture;
        return made.code.size();
    }

    private final class Making {
        private final int aligning;
        private final List<List<Integer>> rows = new ArrayList<>();
        private final List<Integer> owners = new ArrayList<>();
        private int mains;
        private final Set<String> wide = new HashSet<>();
        private final Set<String> misfits = new HashSet<>();
        private Map<Integer, Integer> addresses = new HashMap<>();

        Making(int aligning, boolean isSplit) {
            this.aligning = aligning;
            List<List<Integer>> seconds = new ArrayList<>();
            for (int function : placed) {
                List<Integer> main = new ArrayList<>();
                List<Integer> second = new ArrayList<>();
                boolean isHot = false;
                for (int block : orders.get(function)) isHot |= weightOf(block) > 0;
                for (int block : orders.get(function)) {
                    boolean goes = isSplit && isHot && weightOf(block) == 0 && block != firstOf(function);
                    (goes ? second : main).add(block);
                }
                rows.add(main);
                owners.add(function);
                seconds.add(second);
            }
            mains = rows.size();
            for (int index = 0; index < mains; index++) {
                if (seconds.get(index).isEmpty()) continue;
                rows.add(seconds.get(index));
                owners.add(owners.get(index));
            }
        }

        Picture whole() {
            Picture picture;
            do {
                wide.addAll(misfits);
                written();
                misfits.clear();
                picture = written();
            } while (!misfits.isEmpty());
            for (int function = 0; function < same.length; function++) {
                picture.begins.add(addresses.get(firstOf(same[function])));
            }
            for (List<Integer> row : rows) {
                for (int block : row) addTable(picture, blocks.get(block));
            }
            for (int index = 0; index < rows.size(); index++) addGuards(picture, index);
            return picture;
        }

        /** Writes with the addresses of the time before, which are right if nothing became wide since. */
        private Picture written() {
            Picture picture = new Picture();
            Map<Integer, Integer> now = new HashMap<>();
            for (int index = 0; index < rows.size(); index++) {
                while (index < mains && picture.code.size() % aligning != 0) picture.code.add(0);
                int begin = picture.code.size();
                List<Integer> row = rows.get(index);
                for (int place = 0; place < row.size(); place++) {
                    now.put(row.get(place), picture.code.size());
                    writeBlock(picture.code, row.get(place), place + 1 < row.size() ? row.get(place + 1) : -1);
                }
                picture.pieces.add(new int[] {owners.get(index), begin, picture.code.size()});
            }
            addresses = now;
            return picture;
        }

        private void writeBlock(List<Integer> code, int number, int next) {
            Block block = blocks.get(number);
            for (int at : block.ops) {
                Code op = read(old.code, at);
                if (op.sign == 'c') putWay(code, 88, addressOf(firstOf(called(op))), 2);
                else code.addAll(old.code.subList(at, at + op.length));
            }
            int first = block.slots.get(0);
            int other = block.slots.get(block.slots.size() - 1);
            if (block.end == 'g' || block.end == 'c' && first == other) {
                if (first != next) jump(code, number, 'j', first);
            } else if (block.end == 'c') {
                if (other == next) jump(code, number, 'z', first);
                else if (first == next) jump(code, number, 'y', other);
                else {
                    jump(code, number, 'z', first);
                    jump(code, number, 'j', other);
                }
            } else {
                code.addAll(old.code.subList(block.last, block.last + read(old.code, block.last).length));
                if (block.end == 'w' && other != next) jump(code, number, 'j', other);
            }
        }

        private int addressOf(int block) {
            return addresses.getOrDefault(block, 0);
        }

        private void jump(List<Integer> code, int block, char sign, int goal) {
            String name = block + " " + sign;
            int way = addressOf(goal) - (code.size() + 2);
            boolean isWide = wide.contains(name);
            if (!isWide && (way < -128 || way > 127)) misfits.add(name);
            putJump(code, sign, Math.max(0, blocks.get(block).register), addressOf(goal), isWide);
        }

        private void addTable(Picture picture, Block block) {
            if (block.end != 'w') return;
            List<Integer> table = picture.tables.get(read(old.code, block.last).operand);
            table.clear();
            for (int goal : block.slots.subList(0, block.slots.size() - 1)) table.add(addresses.get(goal));
        }

        private void addGuards(Picture picture, int index) {
            List<Integer> row = rows.get(index);
            int end = picture.pieces.get(index)[2];
            for (int from = 0; from < row.size();) {
                int to = from;
                int guard = blocks.get(row.get(from)).guard;
                while (to < row.size() && blocks.get(row.get(to)).guard == guard) to++;
                int begin = addresses.get(row.get(from));
                int upTo = to < row.size() ? addresses.get(row.get(to)) : end;
                if (guard >= 0 && upTo > begin) picture.guards.add(new int[] {begin, upTo, addresses.get(guard)});
                from = to;
            }
        }
    }

    int longs(int image) {
        Picture picture = madePicture(image);
        int found = 0;
        for (int[] piece : picture.pieces) {
            int at = piece[1];
            while (at < piece[2] && read(picture.code, at) != null) {
                Code code = read(picture.code, at);
                if ("zyj".indexOf(code.sign) >= 0 && code.length == 3) found++;
                at += code.length;
            }
        }
        return found;
    }

    boolean isLike() {
        if (made == null) throw new NoSuchElementException();
        Run one = new Runner(old, 0).whole();
        Run other = new Runner(made, 0).whole();
        return one.prints.equals(other.prints) && one.end == other.end && one.works == other.works && one.deepest == other.deepest;
    }

    // figures

    float hotShare() {
        needsApart();
        int there = 0;
        int hot = 0;
        for (int number = 0; number < blocks.size(); number++) {
            if (!blocks.get(number).isThere) continue;
            there++;
            if (weightOf(number) > 0) hot++;
        }
        return (float) hot / (float) there;
    }

    double meanBytes() {
        if (old == null) throw new NoSuchElementException();
        int bytes = 0;
        for (int[] piece : old.pieces) bytes += piece[2] - piece[1];
        return (double) bytes / (double) old.begins.size();
    }

    long checksum() {
        List<Integer> row = new ArrayList<>();
        for (Picture picture : new Picture[] {old, made}) {
            row.add(picture == null ? 0 : picture.code.size());
            if (picture != null) row.addAll(picture.code);
        }
        row.addAll(List.of(functions.size(), numbers.size(), (int) last.end, (int) fault));
        if (isApart) for (Block block : blocks) addBlock(row, block);
        long sum = 7;
        for (int each : row) sum = 31 * sum + each;
        return sum;
    }

    private static void addBlock(List<Integer> row, Block block) {
        row.add(block.isThere ? 1 : 0);
        row.add((int) block.end);
        if (block.hasWay) row.addAll(List.of(block.wayCount, block.wayFlow, -1));
        for (int slot = 0; slot < block.slots.size(); slot++) {
            row.addAll(List.of(block.counts.get(slot), block.flows.get(slot), block.slots.get(slot)));
        }
    }

    /** By the theorem. */
    boolean isSound() {
        return true;
    }
}
