/** What all tests share: counting answers that are not as due, and naming what a call throws. */
final class Check {
    /** A call whose answer, or exception, is looked at. */
    interface Call {
        Object answer();
    }

    private static int checked = 0;
    private static int wrong = 0;

    private Check() {
    }

    /** The answer of a call as a text; the name of the exception's own class if it throws. */
    static String told(Call call) {
        try {
            return String.valueOf(call.answer());
        } catch (RuntimeException e) {
            return "throws." + e.getClass().getSimpleName();
        }
    }

    static void due(String what, Call call, Object want) {
        String got = told(call);
        checked++;
        if (!got.equals(String.valueOf(want))) {
            wrong++;
            System.out.println(what + " answered " + got + ", due is " + want);
        }
    }

    static void isTrue(String what, boolean is) {
        checked++;
        if (!is) {
            wrong++;
            System.out.println("not so: " + what);
        }
    }

    static int wrongSoFar() {
        return wrong;
    }

    /** Types a whole row, after the one before is cleared. */
    static void type(Meshquiver x, int... numbers) {
        x.clearRow();
        for (int number : numbers) {
            x.type(number);
        }
    }

    /** A quiver of so many vertices, with arrows told by pairs of vertices. */
    static Meshquiver quiver(int vertices, int... ends) {
        Meshquiver x = new Meshquiver();
        for (int v = 0; v < vertices; v++) {
            x.vertex();
        }
        for (int i = 0; i + 1 < ends.length; i += 2) {
            x.arrow(ends[i], ends[i + 1]);
        }
        return x;
    }

    static int module(Meshquiver x, int... dims) {
        type(x, dims);
        return x.module();
    }

    /** Sets a whole matrix, row by row. */
    static void fill(Meshquiver x, int module, int arrow, int columns, int... numbers) {
        for (int i = 0; i < numbers.length; i++) {
            x.entry(module, arrow, i / columns, i % columns, numbers[i]);
        }
    }

    /** The matrix of an arrow as a text, row by row. */
    static String matrix(Meshquiver x, int module, int arrow, int rows, int columns) {
        StringBuilder text = new StringBuilder();
        for (int i = 0; i < rows; i++) {
            for (int j = 0; j < columns; j++) {
                text.append(x.entryAt(module, arrow, i, j));
            }
            text.append(i + 1 < rows ? "/" : "");
        }
        return text.toString();
    }

    static String dims(Meshquiver x, int module, int vertices) {
        StringBuilder text = new StringBuilder();
        for (int v = 0; v < vertices; v++) {
            text.append(x.dimension(module, v));
        }
        return text.toString();
    }

    static void finish() {
        System.out.println(checked - wrong + " answers as due, " + wrong + " not");
        if (wrong > 0) {
            System.exit(1);
        }
    }
}
