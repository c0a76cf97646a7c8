import java.util.ArrayList;
import java.util.List;

/** The public face, line by line as the document has it, and what stands ahead of its calls. */
final class Face {
    static final List<String> LINES = """
            public Meshquiver();
            public int type(int number) throws IllegalArgumentException, IllegalStateException;
            public int clearRow();
            public int vertex() throws UnsupportedOperationException, IllegalStateException;
            public int arrow(int from, int to) throws IndexOutOfBoundsException, \
            UnsupportedOperationException, IllegalStateException;
            public int zero() throws IllegalArgumentException, UnsupportedOperationException, \
            IllegalStateException;
            public int field(int prime) throws IllegalArgumentException, UnsupportedOperationException;
            public boolean isFinite();
            public int paths(int from, int to) throws IndexOutOfBoundsException, \
            UnsupportedOperationException;
            public int clearModules();
            public int module() throws IllegalArgumentException, IllegalStateException;
            public int entry(int module, int arrow, int row, int column, int value) throws \
            IndexOutOfBoundsException, IllegalArgumentException;
            public int entryAt(int module, int arrow, int row, int column) throws IndexOutOfBoundsException;
            public boolean holds(int module) throws IndexOutOfBoundsException;
            public int simple(int vertex) throws IndexOutOfBoundsException, IllegalStateException;
            public int projective(int vertex) throws IndexOutOfBoundsException, \
            UnsupportedOperationException, IllegalStateException;
            public int injective(int vertex) throws IndexOutOfBoundsException, \
            UnsupportedOperationException, IllegalStateException;
            public int string(int vertex) throws IndexOutOfBoundsException, IllegalArgumentException, \
            UnsupportedOperationException, IllegalStateException;
            public int sum(int module, int other) throws IndexOutOfBoundsException, \
            UnsupportedOperationException, IllegalStateException;
            public int dimension(int module, int vertex) throws IndexOutOfBoundsException;
            public int rank(int module, int arrow) throws IndexOutOfBoundsException;
            public int top(int module, int vertex) throws IndexOutOfBoundsException;
            public int socle(int module, int vertex) throws IndexOutOfBoundsException;
            public int layers(int module) throws IndexOutOfBoundsException, NoSuchElementException;
            public int maps(int module, int other) throws IndexOutOfBoundsException;
            public boolean areAlike(int module, int other) throws IndexOutOfBoundsException, \
            IllegalStateException;
            public int pieces(int module) throws IndexOutOfBoundsException, IllegalStateException;
            public int piece(int module, int index, int vertex) throws IndexOutOfBoundsException, \
            IllegalStateException, NoSuchElementException;
            public int syzygy(int module, int times, int vertex) throws IndexOutOfBoundsException, \
            IllegalArgumentException, UnsupportedOperationException;
            public int extensions(int module, int other) throws IndexOutOfBoundsException, \
            UnsupportedOperationException;
            public int resolution(int module) throws IndexOutOfBoundsException, \
            UnsupportedOperationException, NoSuchElementException;
            public int submodules(int module) throws IndexOutOfBoundsException, IllegalArgumentException, \
            IllegalStateException;
            public int weight(int vertex, int weight) throws IndexOutOfBoundsException, \
            IllegalArgumentException;
            public char stability(int module) throws IndexOutOfBoundsException, NoSuchElementException, \
            IllegalStateException;
            public int filtration(int module, int step, int vertex) throws IndexOutOfBoundsException, \
            IllegalStateException, NoSuchElementException;
            public int bars(int module, int from, int to) throws IndexOutOfBoundsException, \
            UnsupportedOperationException, IllegalStateException;
            public char kind() throws UnsupportedOperationException;
            public int form() throws IllegalArgumentException;
            public int roots() throws UnsupportedOperationException;
            public int root(int index, int vertex) throws UnsupportedOperationException, \
            NoSuchElementException, IndexOutOfBoundsException;
            public int orbit(int index) throws UnsupportedOperationException, NoSuchElementException;
            public int translate(int index) throws UnsupportedOperationException, NoSuchElementException;
            public int between(int index, int other, boolean areExtensions) throws \
            UnsupportedOperationException, NoSuchElementException;
            public int mesh(int index, int other) throws UnsupportedOperationException, \
            NoSuchElementException;
            public int tilting() throws UnsupportedOperationException;
            public boolean isTilting(int set) throws UnsupportedOperationException;
            public int mutate(int set, int index) throws UnsupportedOperationException, \
            IllegalArgumentException, NoSuchElementException;
            public int turn(int vertex) throws IndexOutOfBoundsException, UnsupportedOperationException;
            public int turned(int vertex, int other) throws IndexOutOfBoundsException, \
            UnsupportedOperationException;
            public int frieze(int vertex) throws IndexOutOfBoundsException;
            public long checksum(int module) throws IndexOutOfBoundsException;
            public float zeroShare(int module) throws IndexOutOfBoundsException, ArithmeticException;
            public double meanDimension() throws ArithmeticException;
            public boolean isConsistent();
            """.lines().toList();

    /** What the interface says ahead of calls, and these calls. */
    static final List<String> GROUPS = """
            quiver and field: type clearRow vertex arrow zero field isFinite paths clearModules
            modules: module entry entryAt holds simple projective injective string sum dimension rank top \
            socle layers
            maps, pieces, syzygies: maps areAlike pieces piece syzygy extensions resolution submodules \
            weight stability filtration bars
            roots, tilting, clusters: kind form roots root orbit translate between mesh tilting isTilting \
            mutate turn turned frieze
            figures: checksum zeroShare meanDimension isConsistent
            """.lines().toList();

    private Face() {
    }

    /** The names of all calls, the constructor aside. */
    static List<String> names() {
        List<String> names = new ArrayList<>();
        for (String line : LINES.subList(1, LINES.size())) {
            names.add(line.substring(0, line.indexOf('(')).replaceAll(".* ", ""));
        }
        return names;
    }

    /** A call as a page may show it: its name, and the names of what it takes. */
    static String shown(String line) {
        String call = line.substring(0, line.indexOf(')') + 1);
        String taken = call.substring(call.indexOf('(') + 1, call.length() - 1);
        String name = call.substring(0, call.indexOf('(')).replaceAll(".* ", "");
        return name + "(" + taken.replaceAll("\\w+ (\\w+)", "$1") + ")";
    }
}
