import java.lang.reflect.InvocationTargetException;
import java.lang.reflect.Method;
import java.util.Arrays;
import java.util.Comparator;

/** Runs of drawn calls: what throws is told by the face, what throws changes nothing, and all stays sound. */
final class RandomTest {
    private static final String LETTERS = "fbeuaosrgjtmdsabmpdzyjwcftrhn";

    public static void main(String[] args) throws Exception {
        Method[] methods = Blockloom.class.getMethods();
        methods = Arrays.stream(methods).filter(method -> method.getDeclaringClass() == Blockloom.class)
            .sorted(Comparator.comparing(Method::getName)).toArray(Method[]::new);
        for (int seed = 0; seed < 500; seed++) drawnCalls(methods, new Drafts(seed), seed);
        for (int seed = 0; seed < 1500; seed++) rounds(new Drafts(1000 + seed), seed);
        Dues.close("RandomTest");
    }

    private static void drawnCalls(Method[] methods, Drafts drafts, int seed) throws Exception {
        Blockloom loom = seed % 5 == 0 ? new Blockloom() : Looms.linked(drafts.draw(8, 40));
        if (seed % 5 > 1) loom.apart();
        for (int call = 0; call < 400; call++) {
            Method method = methods[drafts.below(methods.length)];
            if (method.getName().equals("poke") && drafts.below(8) > 0) continue;
            if (method.getName().equals("wipe") && drafts.below(8) > 0) continue;
            Object[] values = new Object[method.getParameterCount()];
            for (int index = 0; index < values.length; index++) {
                values[index] = drawValue(method.getParameterTypes()[index], drafts);
            }
            call(loom, method, values);
            if (drafts.below(40) == 0) Dues.due("sound, seed " + seed, true, loom.isSound());
        }
    }

    private static Object drawValue(Class<?> type, Drafts drafts) {
        if (type == boolean.class) return drafts.below(2) == 0;
        if (type == char.class) return LETTERS.charAt(drafts.below(LETTERS.length()));
        int what = drafts.below(20);
        if (what == 0) return Integer.MIN_VALUE;
        if (what == 1) return Integer.MAX_VALUE;
        if (what < 4) return drafts.below(1000) - 20;
        return drafts.below(what < 12 ? 3 : 12) - 1;
    }

    private static void call(Blockloom loom, Method method, Object[] values) throws Exception {
        long before = loom.checksum();
        String what = method.getName() + Arrays.toString(values);
        try {
            method.invoke(loom, values);
        } catch (InvocationTargetException wrapped) {
            Throwable thrown = wrapped.getCause();
            boolean isTold = Arrays.asList(method.getExceptionTypes()).contains(thrown.getClass());
            boolean isOurs = thrown.getStackTrace()[0].getClassName().startsWith("Blockloom");
            if (!isTold || !isOurs) thrown.printStackTrace();
            Dues.due("thrown by " + what, true, isTold && isOurs);
            Dues.due("nothing is changed by " + what, before, loom.checksum());
        }
    }

    /** Images are made of images; now and then the old one is poked. */
    private static void rounds(Drafts drafts, int seed) {
        Blockloom loom = Looms.linked(drafts.draw(seed % 3 == 0 ? 8 : 3, seed % 2 == 0 ? 40 : 15));
        for (int many = drafts.below(8); many > 0; many--) loom.feed(drafts.below(5) - 1);
        for (int round = 0; round < 4; round++) {
            for (int pokes = drafts.below(4) * drafts.below(6); pokes > 0; pokes--) {
                poke(loom, drafts);
            }
            int blocks = loom.apart();
            if (blocks < 0) {
                Dues.due("a fault has a place", true, loom.faultAt() >= 0);
                Dues.due("runs with a fault", true, loom.run(0) <= 1000);
                loom.link();
                continue;
            }
            alter(loom, drafts);
            String old = Looms.ran(loom, 0);
            int aligning = 1 << drafts.below(4);
            boolean isSplit = drafts.below(2) == 0;
            if (Dues.of(() -> loom.make(aligning, isSplit)) instanceof Integer) {
                Dues.due("like, seed " + seed, true, loom.isLike());
                Dues.due("sound, seed " + seed, true, loom.isSound());
                Dues.due("last run stays", old.split(" \\| ")[0], Looms.prints(loom));
                Dues.due("longs", true, loom.longs(1) <= loom.size(1) / 3);
                if (drafts.below(3) > 0) loom.adopt();
            }
        }
    }

    /** A poke that leaves operations where they are, most times. */
    private static void poke(Blockloom loom, Drafts drafts) {
        int address = drafts.below(loom.size(0));
        int value = loom.byteAt(0, address);
        if (drafts.below(60) == 0) loom.poke(address, drafts.below(256));
        else if (value >> 3 >= 1 && value >> 3 <= 7) loom.poke(address, value & 248 | drafts.below(3));
        else if (value < 8 && drafts.below(2) == 0) loom.poke(address, drafts.below(8));
        else if (value == 82 || value == 83 || value == 0) loom.poke(address, new int[] {82, 83, 105}[drafts.below(3)]);
    }

    private static void alter(Blockloom loom, Drafts drafts) {
        for (int step = drafts.below(12); step > 0; step--) {
            int function = drafts.below(8);
            int what = drafts.below(9);
            if (what == 0) loom.thread();
            else if (what == 1) loom.drop();
            else if (what == 2) loom.fold();
            else if (what < 5) loom.train(1 + drafts.below(9));
            else if (what < 7) Dues.of(() -> loom.letFlow(function));
            else if (what == 7) Dues.of(() -> loom.order(function));
            else loom.place();
            if (drafts.below(3) == 0) {
                int block = drafts.below(loom.blocks());
                Dues.of(() -> loom.count(block, drafts.below(4) - 1, drafts.below(10000)));
            }
        }
        if (drafts.below(2) == 0) {
            for (int each = 0; each < 8; each++) {
                int function = each;
                Dues.of(() -> loom.letFlow(function));
                Dues.of(() -> loom.order(function));
            }
            loom.place();
        }
    }
}
