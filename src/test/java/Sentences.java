import java.nio.file.Files;
import java.nio.file.Path;
import java.util.ArrayList;
import java.util.List;

/**
 * Tests by sentences of the document. Each test names the words that it looks after, which must stand in their
 * section; at the end each sentence of the sections that were opened must have been told by a test of its own.
 */
final class Sentences {
    private static final List<Section> sections = new ArrayList<>();

    /** Asks something of an object. */
    interface Ask {
        Object of(Blockloom loom);
    }

    /** Asks something of an object by a number: an image, a block, or a function. */
    interface AskBy {
        Object of(Blockloom loom, int number);
    }

    /** Asks for something by a letter. */
    interface AskFor {
        Object of(Blockloom loom, char what);
    }

    /** Makes an object anew, each time the same. */
    interface Recipe {
        Blockloom made();
    }

    private static final class Section {
        private final String name;
        private final List<String> sentences;
        private final boolean[] isTold;

        Section(String name, List<String> sentences) {
            this.name = name;
            this.sentences = sentences;
            isTold = new boolean[sentences.size()];
        }

        /** Words may go over several sentences, and a sentence may have many words. */
        void tell(String words) {
            String whole = String.join(" ", sentences);
            int from = whole.indexOf(words);
            Dues.due(name + " has the words: " + words, true, from >= 0);
            int at = 0;
            for (int index = 0; index < isTold.length; index++) {
                int end = at + sentences.get(index).length();
                if (from >= 0 && from < end && at < from + words.length()) isTold[index] = true;
                at = end + 1;
            }
        }
    }

    private Sentences() {
    }

    private static String document() {
        try {
            return Files.readString(Path.of("../shared/DOC.md"));
        } catch (java.io.IOException failed) {
            throw new AssertionError(failed);
        }
    }

    private static String plain(String text) {
        return text.trim().replaceAll("\\s+", " ");
    }

    private static String between(String text, String begin, String end) {
        int from = text.indexOf(begin);
        int to = text.indexOf(end, from + begin.length());
        return text.substring(from, to < 0 ? text.length() : to);
    }

    /** Opens a part of the terms, by its number, or the exceptions, by 0. */
    static void openPart(int part) {
        String begin = part == 0 ? "Exceptions. " : "Part " + part + ", ";
        String end = part == 0 ? "Ahead of the calls" : part == 8 ? "Exceptions. " : "Part " + (part + 1) + ", ";
        List<String> sentences = new ArrayList<>();
        for (String sentence : plain(between(document(), begin, end)).split("(?<=[.;:]) ")) sentences.add(sentence);
        sentences.remove(0);
        sections.add(new Section(nameOf(part), sentences));
    }

    private static String nameOf(int part) {
        return part == 0 ? "Exceptions" : "Part " + part;
    }

    static void openPromises(int first, int last) {
        for (int number = first; number <= last; number++) {
            List<String> sentences = new ArrayList<>();
            String section = between(document(), "## Promise " + number + ": ", "\n## ");
            section = section.substring(section.indexOf("\n")).replaceFirst("`[^`]*`: ", "");
            for (String sentence : section.split("\n\n|\n- ")) {
                String words = plain(sentence).replaceFirst("^- ", "");
                if (!words.isEmpty()) sentences.add(words);
            }
            sections.add(new Section("Promise " + number, sentences));
        }
    }

    static void part(int part, String words, Runnable test) {
        holds(nameOf(part), words, test);
    }

    static void promise(int number, String words, Runnable test) {
        holds("Promise " + number, words, test);
    }

    private static void holds(String name, String words, Runnable test) {
        for (Section section : sections) {
            if (section.name.equals(name)) section.tell(words);
        }
        Dues.under(name + ", " + words);
        int before = Dues.lookedAt();
        try {
            test.run();
        } catch (RuntimeException | AssertionError thrown) {
            Dues.due("throws nothing", "nothing", thrown.toString());
        }
        Dues.due("looks at something", true, Dues.lookedAt() > before);
        Dues.under("");
    }

    static void close(String test) {
        for (Section section : sections) {
            for (int index = 0; index < section.isTold.length; index++) {
                Dues.due(section.name + " tells: " + section.sentences.get(index), true, section.isTold[index]);
            }
        }
        Dues.close(test);
    }

    /** Each of the calls is refused, and lets all be as with an object that was not asked. */
    static void refused(Class<? extends RuntimeException> kind, Recipe recipe, Ask... asks) {
        String untouched = Looms.all(recipe.made());
        for (int index = 0; index < asks.length; index++) {
            Ask ask = asks[index];
            Blockloom loom = recipe.made();
            Dues.refused("call " + index, kind, () -> ask.of(loom));
            Dues.due("call " + index + " changes nothing", untouched, Looms.all(loom));
        }
    }

    /** A call by an image is refused, if there is no such image. */
    static void needsImage(AskBy ask) {
        for (int image : new int[] {-1, 2, 3, Integer.MIN_VALUE, Integer.MAX_VALUE}) {
            refused(IndexOutOfBoundsException.class, Looms::full, loom -> ask.of(loom, image));
            refused(IndexOutOfBoundsException.class, Blockloom::new, loom -> ask.of(loom, image));
        }
        for (int image = 0; image < 2; image++) {
            int number = image;
            Object answer = Dues.of(() -> ask.of(Looms.full(), number));
            Dues.due("there is an image " + image, false, answer.equals("throws IndexOutOfBoundsException"));
        }
    }

    /** A call that asks for the new image is refused, if that was not made, or is made no more. */
    static void needsNew(Ask ask) {
        Class<java.util.NoSuchElementException> kind = java.util.NoSuchElementException.class;
        Recipe[] recipes = {Blockloom::new, Looms::takenAway, Looms::faulty, Looms::adopted, Looms::linkedAnew, Looms::poked};
        for (Recipe recipe : recipes) refused(kind, recipe, ask);
        Object answer = Dues.of(() -> ask.of(Looms.full()));
        Dues.due("made it is not refused", false, answer.equals("throws NoSuchElementException"));
    }

    /** A call is refused in all states in which the old image is not apart without a fault. */
    static void needsApart(Ask ask) {
        Class<UnsupportedOperationException> kind = UnsupportedOperationException.class;
        Recipe[] recipes = {Blockloom::new, Looms::faulty, Looms::adopted, Looms::linkedAnew, Looms::poked};
        for (Recipe recipe : recipes) refused(kind, recipe, ask);
        Object answer = Dues.of(() -> ask.of(Looms.full()));
        Dues.due("apart it is not refused", false, answer.equals("throws UnsupportedOperationException"));
    }

    /** A call by a block is refused, if there was no such block, also one that was taken away. */
    static void needsBlock(AskBy ask, boolean isThereNeeded) {
        Class<IndexOutOfBoundsException> kind = IndexOutOfBoundsException.class;
        for (int block : new int[] {-1, 4, 960, 100000, Integer.MIN_VALUE, Integer.MAX_VALUE}) {
            refused(kind, Looms::takenAway, loom -> ask.of(loom, block));
        }
        if (isThereNeeded) refused(kind, Looms::takenAway, loom -> ask.of(loom, 1), loom -> ask.of(loom, 3));
        for (int block : new int[] {0, 2}) {
            Object answer = Dues.of(() -> ask.of(Looms.takenAway(), block));
            Dues.due("there is a block " + block, false, answer.equals("throws IndexOutOfBoundsException"));
        }
    }

    /** A call by a function is refused, if there is no such function, or it has no blocks. */
    static void needsFunction(AskBy ask, boolean areBlocksNeeded) {
        Class<IndexOutOfBoundsException> kind = IndexOutOfBoundsException.class;
        for (int function : new int[] {-1, 3, 7, 8, Integer.MIN_VALUE, Integer.MAX_VALUE}) {
            refused(kind, Looms::takenAway, loom -> ask.of(loom, function));
        }
        if (areBlocksNeeded) {
            refused(kind, Looms::takenAway, loom -> ask.of(loom, 2));
            refused(kind, Looms::withoutPiece, loom -> ask.of(loom, 2));
        }
        for (int function : new int[] {0, 1}) {
            Object answer = Dues.of(() -> ask.of(Looms.takenAway(), function));
            Dues.due("there is a function " + function, false, answer.equals("throws IndexOutOfBoundsException"));
        }
    }

    /** A call for something is refused, if there is no such thing, as there is by these letters alone. */
    static void needsThing(String letters, AskFor ask) {
        for (int sign = 0; sign < 300; sign++) {
            char what = (char) sign;
            if (letters.indexOf(what) >= 0) {
                Dues.due("there is " + what, true, Dues.of(() -> ask.of(Looms.full(), what)) instanceof Integer);
            } else if (sign % 16 == 0 || "abcdefgjmorstuwFJ".indexOf(what) >= 0) {
                refused(IllegalArgumentException.class, Looms::full, loom -> ask.of(loom, what));
            }
        }
    }
}
