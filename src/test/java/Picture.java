/**
 * All that a house tells of itself, as one text. Two houses that are alike tell the same; taking the
 * picture uses the house up.
 */
final class Picture {
    private static final int BEYOND = 6;

    private Picture() {
    }

    static String of(Meshquiver x) {
        StringBuilder text = new StringBuilder();
        int vertices = countVertices(x);
        addQuiver(x, text, vertices);
        addModules(x, text, vertices);
        addWeights(x, text);
        String typed = Check.told(() -> x.type(7));
        addRest(x, text, typed, vertices);
        return text.toString();
    }

    /** The same with the row and the weights first, before any call that tells of other things. */
    static String ofRow(Meshquiver x) {
        StringBuilder text = new StringBuilder();
        String typed = Check.told(() -> x.type(7));
        addWeights(x, text);
        addRest(x, text, typed, countVertices(x));
        return text.toString();
    }

    private static void addWeights(Meshquiver x, StringBuilder text) {
        for (int i = 0; i < BEYOND; i++) {
            int v = i;
            String before = Check.told(() -> x.weight(v, 0));
            add(text, "weight", before);
            if (!before.startsWith("throws")) {
                x.weight(v, Integer.parseInt(before));
            }
        }
    }

    private static void addRest(Meshquiver x, StringBuilder text, String typed, int vertices) {
        add(text, "modules", Check.told(() -> x.clearModules()));
        add(text, "field", Check.told(() -> x.field(2)));
        addRow(x, text, typed, vertices);
        addRoom(x, text);
    }

    private static void add(StringBuilder text, String name, String told) {
        text.append(name).append(' ').append(told.replace("throws.", "!")).append("; ");
    }

    private static void addQuiver(Meshquiver x, StringBuilder text, int vertices) {
        add(text, "finite", Check.told(() -> x.isFinite()));
        add(text, "kind", Check.told(() -> x.kind()));
        add(text, "roots", Check.told(() -> x.roots()));
        add(text, "orbit", Check.told(() -> x.orbit(0)));
        add(text, "tilting", Check.told(() -> x.tilting()));
        add(text, "consistent", Check.told(() -> x.isConsistent()));
        for (int i = 0; i < vertices; i++) {
            int v = i;
            add(text, "frieze", Check.told(() -> x.frieze(v)));
            for (int j = 0; j < vertices; j++) {
                int w = j;
                add(text, "b", Check.told(() -> x.turned(v, w)));
                add(text, "paths", Check.told(() -> x.paths(v, w)));
            }
        }
    }

    private static void addModules(Meshquiver x, StringBuilder text, int vertices) {
        for (int i = 0; i <= 12; i++) {
            int m = i;
            String sum = Check.told(() -> x.checksum(m));
            add(text, "checksum", sum);
            if (sum.startsWith("throws")) {
                return;
            }
            for (int j = 0; j < vertices; j++) {
                int v = j;
                add(text, "dimension", Check.told(() -> x.dimension(m, v)));
            }
            add(text, "maps", Check.told(() -> x.maps(m, m)));
            add(text, "holds", Check.told(() -> x.holds(m)));
            add(text, "pieces", Check.told(() -> x.pieces(m)));
            add(text, "piece", Check.told(() -> x.piece(m, 0, 0)));
            add(text, "stability", Check.told(() -> x.stability(m)));
            add(text, "filtration", Check.told(() -> x.filtration(m, 0, 0)));
            add(text, "syzygy", Check.told(() -> x.syzygy(m, 1, 0)));
        }
    }

    private static int countVertices(Meshquiver x) {
        int count = 0;
        for (int v = 0; v < BEYOND; v++) {
            int vertex = v;
            count += Check.told(() -> x.frieze(vertex)).startsWith("throws") ? 0 : 1;
        }
        return count;
    }

    /** The row is told by what type() counts, and by a form for which it is filled up. */
    private static void addRow(Meshquiver x, StringBuilder text, String told, int before) {
        add(text, "typed", told);
        int count = told.startsWith("throws") ? 8 : Integer.parseInt(told);
        int vertices = before;
        while (vertices < 4 && 2 * vertices < count) {
            x.vertex();
            vertices++;
        }
        int due = vertices == 5 ? 5 : 2 * vertices;
        for (int number = 5; count < due; number -= 2) {
            x.type(number);
            count++;
        }
        add(text, "form", Check.told(() -> x.form()));
        add(text, "row", Check.told(() -> x.clearRow()));
    }

    /** How many vertices, arrows and zero paths more the quiver takes tells how many it has. */
    private static void addRoom(Meshquiver x, StringBuilder text) {
        add(text, "vertex", Check.told(() -> x.vertex()));
        String arrow = Check.told(() -> x.arrow(0, 0));
        add(text, "arrow", arrow);
        int loop = arrow.startsWith("throws") ? 6 : Integer.parseInt(arrow);
        x.type(loop);
        x.type(loop);
        add(text, "zero", Check.told(() -> x.zero()));
        x.clearRow();
        add(text, "finite", Check.told(() -> x.isFinite()));
    }
}
