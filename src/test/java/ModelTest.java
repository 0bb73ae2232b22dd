import java.lang.reflect.InvocationTargetException;
import java.lang.reflect.Method;
import java.lang.reflect.Modifier;
import java.util.ArrayList;
import java.util.Arrays;
import java.util.HashMap;
import java.util.List;
import java.util.Map;

/** Promises 1 to 54: drawn runs of calls, each made on the class and on the model, which must answer alike. */
final class ModelTest {
    private static final Map<String, Method> FACE = new HashMap<>();
    private static final Map<String, Method> MODEL = new HashMap<>();
    private static final List<String> NAMES = new ArrayList<>();
    private static final String SIGNS = "sabmpdzyjwcftrhn";
    private static final String LETTERS = "fbeuaosrgjtmd-";
    private static final String[] STEPS = ("train train count count count letFlow letFlow letFlow order order thread drop fold"
        + " place make make run weight gain isLike isSound hotShare meanBytes longs same checksum feed").split(" ");

    private final Drafts drafts;
    private final Blockloom loom = new Blockloom();
    private final Model model = new Model();
    private final StringBuilder told = new StringBuilder();
    private boolean isWrong;

    private ModelTest(long seed) {
        drafts = new Drafts(seed);
    }

    public static void main(String[] args) {
        for (Method method : Blockloom.class.getDeclaredMethods()) {
            if (!Modifier.isPublic(method.getModifiers())) continue;
            FACE.put(method.getName(), method);
            NAMES.add(method.getName());
        }
        NAMES.sort(null);
        for (Method method : Model.class.getDeclaredMethods()) {
            if (!Modifier.isPrivate(method.getModifiers()) && FACE.containsKey(method.getName())) {
                boolean isOfFace = Arrays.equals(method.getParameterTypes(), FACE.get(method.getName()).getParameterTypes());
                if (isOfFace) MODEL.put(method.getName(), method);
            }
        }
        Dues.due("methods of the model", 53, MODEL.size());
        int seeds = args.length > 0 ? Integer.parseInt(args[0]) : 400;
        for (int seed = 0; seed < seeds; seed++) new ModelTest(seed).drawnImages(seed);
        for (int seed = 0; seed < seeds / 4; seed++) new ModelTest(100000 + seed).drawnCalls();
        for (int seed = 0; seed < seeds / 4; seed++) new ModelTest(200000 + seed).drawnDrafts();
        for (int seed = 0; seed < 6; seed++) new ModelTest(300000 + seed).greatestImages(seed % 3);
        Dues.close("ModelTest");
    }

    private static Object answer(Method method, Object object, Object[] values) {
        try {
            return method.invoke(object, values);
        } catch (InvocationTargetException wrapped) {
            return "throws " + wrapped.getCause().getClass().getSimpleName();
        } catch (IllegalAccessException refused) {
            throw new AssertionError(refused);
        }
    }

    /** Asks both, and tells the calls up to the first one that they answer in two ways. */
    private Object ask(String name, Object... values) {
        Object got = answer(FACE.get(name), loom, values);
        if (isWrong) return got;
        Object want = answer(MODEL.get(name), model, values);
        told.append(name).append(Arrays.toString(values)).append(' ');
        isWrong = !want.equals(got);
        Dues.due(isWrong ? told.toString() : "", want, got);
        return got;
    }

    private int number(Object answer) {
        return answer instanceof Integer ? (Integer) answer : -1;
    }

    private void draft(String text) {
        for (String word : text.trim().split("\\s+")) {
            char sign = word.charAt(0);
            String[] parts = word.length() == 1 ? new String[0] : word.substring(1).split(",");
            int[] numbers = new int[3];
            for (int index = 0; index < parts.length; index++) numbers[index] = Integer.parseInt(parts[index]);
            if (sign == 'F') ask("function");
            else if (sign == 'L') ask("label", numbers[0]);
            else if (sign == 'T') ask("table", numbers[0], numbers[1]);
            else if (sign == 'G') ask("guard", numbers[0], numbers[1], numbers[2]);
            else if (sign == 'j' || sign == 'c') ask("op", sign, numbers[2], numbers[0]);
            else ask("op", sign, numbers[0], numbers[1]);
        }
    }

    /** Images that are drawn, poked, altered, made, and made of those that were made. */
    private void drawnImages(int seed) {
        if (seed % 7 == 6) draft(twins());
        else if (seed % 7 == 5) draft(drafts.drawDense(10 + drafts.below(25)));
        else if (seed % 7 == 4) draft(great());
        else draft(drafts.draw(seed % 3 == 0 ? 8 : 3, seed % 2 == 0 ? 40 : 14));
        ask("link");
        for (int many = drafts.below(6); many > 0; many--) ask("feed", drafts.below(6) - 1);
        for (int round = 0; round < 4; round++) {
            if (seed % 4 == 3) for (int pokes = drafts.below(7); pokes > 0; pokes--) poke();
            if (number(ask("apart")) < 0) {
                lookAtAll();
                ask("run", 0);
                lookAtRun();
                ask("link");
                continue;
            }
            if (round < 2) lookAtAll();
            for (int steps = drafts.below(24); steps > 0; steps--) step();
            if (drafts.below(3) > 0) profileAll();
            lookAtAll();
            lookAtRun();
            if (drafts.below(4) > 0) ask("make", 1 << drafts.below(4), drafts.below(2) == 0);
            if (number(ask("adopt")) >= 0) lookAtAll();
        }
    }

    /** Functions of few kinds, so that some are like others. */
    private String twins() {
        String[] kinds = {"F p1 c# r", "F L0 z1,1 p1 c# j0 L1 r", "F L0 y1,1 j2 L1 p1 c# j0 L2 r", "F L0 c# L1 p0 r L2 t0 G0,1,2",
            "F L0 c# n L1 p0 r L2 t0 G0,1,2", "F f1 p1 r", "F L0 z1,1 p1 c# z1,1 p1 c# j0 L1 r"};
        StringBuilder text = new StringBuilder("F d1");
        for (int call = 1; call < 8; call++) text.append(" c").append(call);
        text.append(" h");
        for (int function = 1; function < 8; function++) {
            String kind = kinds[drafts.below(2) + drafts.below(kinds.length - 1)];
            text.append(' ').append(kind.replace("#", "" + (1 + drafts.below(7))));
        }
        return text.toString();
    }

    private void poke() {
        int size = number(ask("size", 0));
        int address = drafts.below(size);
        int value = number(ask("byteAt", 0, address));
        int what = drafts.below(8);
        if (what == 0) ask("poke", address, drafts.below(256));
        else if (what < 4) ask("poke", address, value & 248 | drafts.below(4));
        else if (value < 8) ask("poke", address, drafts.below(8));
        else if (value > 79 && value < 88) ask("poke", address, 80 + drafts.below(5));
        else ask("poke", address, Math.floorMod(value + drafts.below(7) - 3, 256));
    }

    private void step() {
        String name = STEPS[drafts.below(STEPS.length)];
        int blocks = Math.max(1, number(ask("blocks")));
        if (name.equals("train")) ask(name, drafts.below(11));
        else if (name.equals("count")) ask(name, drafts.below(blocks), drafts.below(4) - 1, drawCount());
        else if (name.equals("letFlow") && drafts.below(3) == 0) for (int each = 0; each < 8; each++) ask(name, each);
        else if (name.equals("order") && drafts.below(3) == 0) for (int each = 0; each < 8; each++) ask(name, each);
        else if (name.equals("weight")) ask(name, drafts.below(blocks));
        else if (name.equals("make")) ask(name, 1 << drafts.below(4), drafts.below(2) == 0);
        else if (name.equals("run") || name.equals("longs")) ask(name, drafts.below(3) / 2);
        else if (name.equals("feed")) ask(name, drafts.below(5));
        else if (FACE.get(name).getParameterCount() == 1) ask(name, drafts.below(8));
        else ask(name);
        ask("checksum");
    }

    /** Many counts, so that much flows, and is ordered, placed and split by that. */
    private void profileAll() {
        int blocks = number(ask("blocks"));
        int most = 1 << drafts.below(14);
        int share = 1 + drafts.below(4);
        for (int block = 0; block < blocks; block++) {
            for (int slot = -1; slot < 6; slot++) {
                if (drafts.below(share) == 0) ask("count", block, slot, drafts.below(most));
            }
        }
        if (drafts.below(2) == 0) ask("train", 1 + drafts.below(3));
        for (int function = 0; function < 8; function++) {
            if (drafts.below(8) > 0) ask("letFlow", function);
            if (drafts.below(8) > 0) ask("order", function);
        }
        ask("place");
        ask("checksum");
        ask("make", 1 << drafts.below(4), drafts.below(3) > 0);
    }

    /** Eight functions with guards over guards, and many bytes. */
    private String great() {
        StringBuilder text = new StringBuilder();
        int doubles = 1 + drafts.below(8);
        for (int function = 0; function < 8; function++) {
            text.append(" F");
            for (int place = 0; place < 40; place++) {
                if (place % 4 == 0) text.append(" L").append(place / 4);
                int what = drafts.below(9);
                if (place == 39) text.append(" r");
                else if (what < doubles) text.append(" s").append(drafts.below(3)).append(',').append(drafts.below(9));
                else if (what < 7) text.append(" y").append(drafts.below(3)).append(',').append(drafts.below(10));
                else text.append(" c").append(drafts.below(8));
            }
            int many = function == 7 ? 0 : 1 + drafts.below(2);
            for (int guard = 0; guard < many; guard++) {
                int from = drafts.below(8);
                text.append(" G").append(from).append(',').append(from + 1 + drafts.below(9 - from)).append(',').append(drafts.below(10));
            }
        }
        return text.toString();
    }

    /** Images of 960 bytes, poked to be all jumps, switches with most slots, or blocks of a byte or two. */
    private void greatestImages(int kind) {
        for (int function = 0; function < 8; function++) {
            ask("function");
            for (int place = 0; place < 40; place++) {
                if (place % 4 == 1) ask("label", place / 4);
                ask("op", 'c', 0, 0);
            }
            for (int index = 0; index < 5 && function < 4; index++) ask("table", function, drafts.below(10));
            if (function > 3) ask("guard", drafts.below(5), 5 + drafts.below(5), drafts.below(10));
        }
        ask("link");
        for (int at = 0; at < 960; at += 3) pokeThree(kind, at);
        Dues.due("greatest image", true, number(ask("apart")) >= 320);
        for (int round = 0; round < 2; round++) {
            profileGreatest();
            lookAtAll();
            ask("fold");
            ask("thread");
            ask("drop");
            ask("checksum");
        }
    }

    private void pokeThree(int kind, int at) {
        int function = at / 120;
        int way = 120 * function + 3 * drafts.below(40) - at - 3;
        if (at % 120 == 117) poke(at, 82, 82, 82);
        else if (kind == 0) poke(at, 64 + 8 * drafts.below(2) + drafts.below(3), way >> 8 & 255, way & 255);
        else if (kind == 1 && function < 4) poke(at, 96 + drafts.below(3), function, 82);
        else poke(at, 82, 104, drafts.below(2) == 0 ? 40 : 0);
    }

    private void poke(int at, int one, int two, int three) {
        ask("poke", at, one);
        ask("poke", at + 1, two);
        ask("poke", at + 2, three);
    }

    private void profileGreatest() {
        int blocks = number(ask("blocks"));
        int most = 1 << 4 + drafts.below(10);
        for (int block = 0; block < blocks; block++) {
            for (int slot = -1; slot < 6; slot++) if (drafts.below(3) == 0) ask("count", block, slot, drafts.below(most));
        }
        ask("train", 1);
        int flowing = drafts.below(4);
        ask("letFlow", flowing);
        ask("letFlow", 4 + flowing);
        for (int function = 0; function < 8; function++) ask("order", function);
        ask("place");
        ask("make", 1, true);
        ask("checksum");
    }

    private int drawCount() {
        int what = drafts.below(8);
        if (what == 0) return drafts.below(10000);
        return what == 1 ? 9999 : drafts.below(12);
    }

    private void lookAtAll() {
        for (String name : List.of("checksum", "fault", "faultAt", "isSound", "isLike", "hotShare", "meanBytes", "blocks")) ask(name);
        for (int image = 0; image < 2; image++) lookAtImage(image);
        int blocks = number(ask("blocks"));
        for (int block = 0; block < blocks; block++) lookAtBlock(block);
        for (int function = 0; function < 9 && blocks > 0; function++) {
            ask("same", function);
            ask("gain", function);
            for (int index = 0; number(ask("orderAt", function, index)) >= 0; index++) continue;
            ask("placed", function);
        }
    }

    private void lookAtImage(int image) {
        int size = number(ask("size", image));
        for (int address = 0; address <= size; address++) ask("byteAt", image, address);
        ask("longs", image);
        for (int function = 0; function < 9; function++) ask("begins", image, function);
        for (int table = 0; table < 5; table++) {
            for (int index = 0; number(ask("tableAt", image, table, index)) >= 0; index++) continue;
        }
        for (char what : new char[] {'f', 'b', 'e'}) {
            for (int index = 0; number(ask("piece", image, index, what)) >= 0; index++) continue;
        }
        for (char what : new char[] {'f', 'u', 'a'}) {
            for (int index = 0; number(ask("guardAt", image, index, what)) >= 0; index++) continue;
        }
    }

    private void lookAtBlock(int block) {
        ask("isThere", block);
        for (char what : "fbosrg".toCharArray()) ask("block", block, what);
        ask("endOf", block);
        ask("weight", block);
        for (int index = 0; ask("opAt", block, index) instanceof Character; index++) continue;
        int slots = number(ask("block", block, 's'));
        for (int slot = -1; slot <= slots; slot++) {
            ask("successor", block, slot);
            ask("counted", block, slot);
            ask("flow", block, slot);
        }
    }

    private void lookAtRun() {
        for (char what : "jtmd".toCharArray()) ask("told", what);
        ask("end");
        int prints = number(ask("prints"));
        for (int index = 0; index <= prints; index++) ask("printAt", index);
    }

    /** Any calls with any values, from an empty object on. */
    private void drawnCalls() {
        if (drafts.below(4) > 0) draft(drafts.draw(3, 12));
        if (drafts.below(2) == 0) ask("link");
        for (int call = 0; call < 300; call++) {
            String name = NAMES.get(drafts.below(NAMES.size()));
            boolean isRare = name.equals("wipe") || name.equals("poke") || name.equals("link") || name.equals("function");
            if (isRare && drafts.below(6) > 0) name = STEPS[drafts.below(STEPS.length)];
            if (drafts.below(20) == 0) name = "apart";
            Class<?>[] types = FACE.get(name).getParameterTypes();
            Object[] values = new Object[types.length];
            for (int index = 0; index < values.length; index++) values[index] = drawValue(types[index]);
            ask(name, values);
            ask("checksum");
        }
    }

    private Object drawValue(Class<?> type) {
        if (type == boolean.class) return drafts.below(2) == 0;
        if (type == char.class) return (drafts.below(2) == 0 ? SIGNS : LETTERS).charAt(drafts.below(14));
        int what = drafts.below(30);
        if (what == 0) return Integer.MIN_VALUE;
        if (what == 1) return Integer.MAX_VALUE;
        if (what == 2) return drafts.below(12000) - 1000;
        return drafts.below(what < 20 ? 3 : 11) - 1;
    }

    /** Drafts of any calls, linked again and again. */
    private void drawnDrafts() {
        for (int call = 0; call < 400; call++) {
            int what = drafts.below(40);
            if (what == 0) ask("function");
            else if (what == 1 && drafts.below(8) == 0) ask("wipe");
            else if (what < 5) ask("label", drafts.below(11));
            else if (what < 8) ask("table", drafts.below(5), drafts.below(6));
            else if (what == 8) ask("guard", drafts.below(6), drafts.below(6), drafts.below(6));
            else if (what < 12) linkAll();
            else ask("op", SIGNS.charAt(drafts.below(SIGNS.length())), drafts.below(4), drafts.below(5));
        }
    }

    private void linkAll() {
        if (number(ask("link")) < 0) return;
        ask("run", 0);
        lookAtRun();
        lookAtImage(0);
        ask("apart");
        ask("checksum");
        ask("fault");
        ask("faultAt");
    }
}
