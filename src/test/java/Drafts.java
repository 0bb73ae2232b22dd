import java.util.Random;

/** Draws drafts that can be taken apart without a fault. */
final class Drafts {
    private final Random random;
    private int guards;

    Drafts(long seed) {
        random = new Random(seed);
    }

    int below(int bound) {
        return random.nextInt(bound);
    }

    /** A draft of so many functions at most, each of so many operations at most. */
    String draw(int mostFunctions, int mostOps) {
        int functions = 1 + below(mostFunctions);
        guards = 0;
        StringBuilder text = new StringBuilder();
        for (int function = 0; function < functions; function++) {
            drawFunction(text, function, functions, 1 + below(mostOps));
        }
        return text.toString();
    }

    /** A function of many blocks that go to others, or on. */
    String drawDense(int ops) {
        StringBuilder text = new StringBuilder("F");
        int label = 0;
        for (int place = 0; place < ops; place++) {
            if (label < 10 && place * 10 / ops >= label) text.append(" L").append(label++);
            int what = below(8);
            if (what == 0) text.append(" p1");
            else if (what == 1) text.append(" j").append(below(10));
            else if (what == 2) text.append(" w1,0");
            else text.append(what < 5 ? " z1," : " y1,").append(below(10));
        }
        return text.append(" j").append(below(10)).append(" T0,").append(below(10)).toString();
    }

    private void drawFunction(StringBuilder text, int function, int functions, int ops) {
        int[] places = new int[9];
        for (int label = 0; label < 9; label++) places[label] = below(ops);
        text.append(" F");
        boolean hasTable = function < 4 && below(2) == 0;
        for (int place = 0; place < ops; place++) {
            for (int label = 0; label < 9; label++) if (places[label] == place) text.append(" L").append(label);
            text.append(' ').append(place == ops - 1 ? drawLast() : drawOp(function, functions, hasTable));
        }
        text.append(" L9");
        if (hasTable) {
            int many = 1 + below(5);
            for (int index = 0; index < many; index++) text.append(" T").append(function).append(',').append(below(9));
        }
        for (int many = below(3) - 1; many >= 0; many--) drawGuard(text, places, ops);
    }

    private void drawGuard(StringBuilder text, int[] places, int ops) {
        int from = below(9);
        int to = below(10);
        int end = to == 9 ? ops : places[to];
        if (places[from] < end && guards < 8) {
            guards++;
            text.append(" G").append(from).append(',').append(to).append(',').append(below(9));
        }
    }

    private String drawLast() {
        String[] lasts = {"h", "r", "r", "t" + below(3), "j" + below(9), "h"};
        return lasts[below(lasts.length)];
    }

    private String drawOp(int function, int functions, boolean hasTable) {
        int register = below(3);
        switch (below(22)) {
            case 0: return "s" + register + "," + below(4);
            case 1: return "a" + register + "," + below(3);
            case 2: return "b" + register + "," + below(3);
            case 3: return "m" + register + "," + below(3);
            case 4: case 5: return "p" + register;
            case 6: return "d" + register;
            case 7: case 8: case 9: return "z" + register + "," + below(9);
            case 10: case 11: return "y" + register + "," + below(9);
            case 12: case 13: return "j" + below(9);
            case 14: case 15: return "c" + below(functions);
            case 16: return "f" + register;
            case 17: return "t" + register;
            case 18: return below(2) == 0 ? "r" : "h";
            case 19: return "n";
            case 20: return "s" + register + "," + below(256);
            default: return hasTable ? "w" + register + "," + function : "p" + register;
        }
    }
}
