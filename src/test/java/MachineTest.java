import java.util.ArrayList;
import java.util.HashMap;
import java.util.HashSet;
import java.util.List;
import java.util.Map;
import java.util.Set;

/** Promises 19 to 23, 33 and 35: another machine runs drawn images, and counts, as the document tells. */
final class MachineTest {
    public static void main(String[] args) {
        Drafts drafts = new Drafts(61L);
        Set<Character> ends = new HashSet<>();
        for (int round = 0; round < 4000; round++) {
            String text = drafts.draw(round % 2 == 0 ? 8 : 3, round % 3 == 0 ? 40 : 12);
            Blockloom loom = Looms.linked(text);
            List<Integer> numbers = new ArrayList<>();
            for (int many = drafts.below(10); many > 0; many--) {
                numbers.add(drafts.below(6) - 1);
                loom.feed(numbers.get(numbers.size() - 1));
            }
            if (round % 5 == 4) loom.poke(drafts.below(loom.size(0)), drafts.below(256));
            OtherMachine other = new OtherMachine(loom, numbers);
            boolean isApart = loom.apart() >= 0;
            if (isApart) other.readBlocks();
            int period = 1 + drafts.below(9);
            other.run(period);
            ends.add(other.end);
            Dues.due("run of " + text, other.told(), Looms.ran(loom, 0));
            if (isApart) {
                Dues.due("events of " + text, other.events, loom.train(period));
                Dues.due("trained run of " + text, other.end, loom.end());
                Dues.due("counts of " + text, other.counts(), Looms.counts(loom, false));
            }
        }
        Dues.due("all ends", "[d, h, i, l, r, s, u, x]", new java.util.TreeSet<>(ends).toString());
        Dues.close("MachineTest");
    }

    /** Runs the old image of an object, by what its face tells. */
    private static final class OtherMachine {
        private final Blockloom loom;
        private final List<Integer> numbers;
        private final int[] registers = new int[8];
        private final List<Integer> open = new ArrayList<>();
        private final List<Integer> prints = new ArrayList<>();
        private final Map<Integer, Integer> lines = new HashMap<>();
        private final Set<Integer> seen = new HashSet<>();
        private final Map<Integer, Integer> blockByBegin = new HashMap<>();
        private final Map<Integer, Integer> blockByLast = new HashMap<>();
        private final Map<String, Integer> counts = new HashMap<>();
        private int period;
        private int events;
        private int works;
        private int jumps;
        private int taken;
        private int misses;
        private int deepest;
        private int read;
        private char end = '-';

        OtherMachine(Blockloom loom, List<Integer> numbers) {
            this.loom = loom;
            this.numbers = numbers;
        }

        void readBlocks() {
            for (int block = 0; block < loom.blocks(); block++) blockByBegin.put(loom.block(block, 'b'), block);
            for (int index = 0; Dues.of(piece(index)) instanceof Integer; index++) {
                int at = loom.piece(0, index, 'b');
                int block = -1;
                while (at < loom.piece(0, index, 'e')) {
                    block = blockByBegin.getOrDefault(at, block);
                    int next = at + length(at);
                    if (next == loom.piece(0, index, 'e') || blockByBegin.containsKey(next)) blockByLast.put(at, block);
                    at = next;
                }
            }
        }

        private Dues.Call piece(int index) {
            return () -> loom.piece(0, index, 'b');
        }

        private int at(int address) {
            Object value = Dues.of(() -> loom.byteAt(0, address));
            return value instanceof Integer ? (Integer) value : -1;
        }

        private String sign(int address) {
            int head = at(address);
            if (head < 0 || head > 127) return "-";
            int kind = head / 8;
            int low = head % 8;
            String sign = "n s a b m p z y Z Y j c w t d f".split(" ")[kind];
            if (kind == 10) sign = low == 0 ? "j" : low == 1 ? "J" : low == 2 ? "r" : low == 3 ? "h" : "-";
            if ((sign.equals("n") || sign.equals("c")) && low != 0) return "-";
            boolean isOneLong = "sabmzyjw".contains(sign);
            boolean isTwoLong = "ZYJc".contains(sign);
            if ((isOneLong || isTwoLong) && at(address + 1) < 0) return "-";
            if (isTwoLong && at(address + 2) < 0) return "-";
            if ("abm".contains(sign) && at(address + 1) > 7) return "-";
            return sign;
        }

        private int length(int address) {
            String sign = sign(address);
            return "sabmzyjw".contains(sign) ? 2 : "ZYJc".contains(sign) ? 3 : 1;
        }

        private int goal(int address) {
            int length = length(address);
            int way = at(address + 1);
            if (length == 3) way = way * 256 + at(address + 2);
            int half = length == 3 ? 32768 : 128;
            return address + length + (way >= half ? way - 2 * half : way);
        }

        private void happen(Integer block, int slot) {
            if (block == null) return;
            if (slot < 0 && !Looms.hasWayIn(loom, block)) return;
            if (events % period == 0) {
                counts.put(block + ":" + slot, Math.min(9999, counts.getOrDefault(block + ":" + slot, 0) + period));
            }
            events++;
        }

        void run(int byPeriod) {
            period = byPeriod;
            int address = loom.begins(0, 0);
            happen(blockByBegin.get(address), -1);
            while (end == '-') address = step(address);
        }

        private int functions() {
            int many = 0;
            while (Dues.of(begin(many)) instanceof Integer) many++;
            return many;
        }

        private Dues.Call begin(int function) {
            return () -> loom.begins(0, function);
        }

        private int step(int address) {
            String sign = sign(address);
            int register = at(address) % 8;
            boolean isWork = !"nzyjZYJ".contains(sign);
            if (sign.equals("-")) end = 'i';
            else if (isWork && works == 1000) end = 's';
            else if (!isWork && seen.contains(address)) end = 'l';
            else if (sign.equals("f") && (registers[register] < 0 || registers[register] >= functions())) end = 'x';
            else if ((sign.equals("f") || sign.equals("c")) && open.size() == 12) end = 'd';
            if (end != '-') return address;
            int line = address / 8;
            if (lines.getOrDefault(line % 4, -1) != line) misses++;
            lines.put(line % 4, line);
            if (isWork) {
                works++;
                seen.clear();
            } else {
                seen.add(address);
            }
            return perform(sign.toLowerCase().charAt(0), address, register);
        }

        private int perform(char sign, int address, int register) {
            int next = address + length(address);
            int operand = at(address + 1);
            int slot = 0;
            if (sign == 's') registers[register] = operand;
            if (sign == 'a') registers[register] += registers[operand];
            if (sign == 'b') registers[register] -= registers[operand];
            if (sign == 'm') registers[register] *= registers[operand];
            if (sign == 'p') prints.add(registers[register]);
            if (sign == 'd') registers[register] = read < numbers.size() ? numbers.get(read++) : 0;
            if (sign == 'h') end = 'h';
            if (sign == 'z' || sign == 'y' || sign == 'j') {
                jumps++;
                boolean goes = sign == 'j' || (registers[register] == 0) == (sign == 'z');
                if (sign != 'j' && registers[register] != 0) slot = 1;
                if (goes) {
                    taken++;
                    next = goal(address);
                }
            }
            if (sign == 'w') {
                int index = registers[register];
                Object to = Dues.of(() -> loom.tableAt(0, operand, index));
                slot = Looms.table(loom, 0, operand).isEmpty() ? 0 : Looms.table(loom, 0, operand).split(" ").length;
                if (to instanceof Integer) {
                    slot = index;
                    next = (Integer) to;
                }
            }
            if (sign == 'c' || sign == 'f') {
                open.add(address);
                deepest = Math.max(deepest, open.size());
                next = sign == 'c' ? goal(address) : loom.begins(0, registers[register]);
                happen(blockByBegin.get(next), -1);
                return next;
            }
            happen(blockByLast.get(address), slot);
            if (sign == 't') return thrown(address, registers[register]);
            if (sign == 'r') return back();
            return next;
        }

        private int back() {
            if (open.isEmpty()) {
                end = 'r';
                return 0;
            }
            int call = open.remove(open.size() - 1);
            happen(blockByLast.get(call), 0);
            return call + length(call);
        }

        private int thrown(int address, int what) {
            int from = address;
            while (true) {
                for (int guard = 0; Dues.of(guardFrom(guard)) instanceof Integer; guard++) {
                    if (loom.guardAt(0, guard, 'f') <= from && from < loom.guardAt(0, guard, 'u')) {
                        registers[0] = what;
                        int to = loom.guardAt(0, guard, 'a');
                        happen(blockByBegin.get(to), -1);
                        return to;
                    }
                }
                if (open.isEmpty()) {
                    end = 'u';
                    return 0;
                }
                from = open.remove(open.size() - 1);
            }
        }

        private Dues.Call guardFrom(int guard) {
            return () -> loom.guardAt(0, guard, 'f');
        }

        String told() {
            return prints.toString().replaceAll("[\\[\\],]", "") + " | " + end + " " + works + " " + jumps + " " + taken
                + " " + misses + " " + deepest;
        }

        String counts() {
            StringBuilder text = new StringBuilder();
            for (int block = 0; block < loom.blocks(); block++) {
                if (block > 0) text.append("; ");
                if (Looms.hasWayIn(loom, block)) text.append(counts.getOrDefault(block + ":-1", 0)).append('/');
                for (int slot = 0; slot < loom.block(block, 's'); slot++) {
                    text.append(slot > 0 ? " " : "").append(counts.getOrDefault(block + ":" + slot, 0));
                }
            }
            return text.toString();
        }
    }
}
