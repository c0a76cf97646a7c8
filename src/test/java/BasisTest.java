/**
 * A module in another basis is alike: every answer that does not read its numbers stays the same. The
 * modules are sums of built ones, whose answers are looked at by other tests too.
 */
public final class BasisTest {
    private static long state = 11;
    private static int vertices;
    private static int[] ends;
    private static int prime;

    public static void main(String[] args) {
        int[][] quivers = {{0, 1, 1, 2}, {1, 0, 1, 2}, {0, 1, 0, 1}, {0, 0, 0, 1}, {0, 1, 1, 0, 1, 2}, {0, 1, 1, 2, 0, 2}};
        for (int p : new int[] {2, 3, 5}) {
            prime = p;
            for (int[] told : quivers) {
                ends = told;
                vertices = 2;
                for (int end : told) {
                    vertices = Math.max(vertices, end + 1);
                }
                for (int round = 0; round < 25; round++) {
                    compare();
                }
            }
        }
        Check.finish();
    }

    private static int below(int bound) {
        state = state * 6364136223846793005L + 1442695040888963407L;
        return (int) ((state >>> 33) % bound);
    }

    private static void compare() {
        Meshquiver x = Check.quiver(vertices, ends);
        x.field(prime);
        for (int v = 0; v < vertices; v++) {
            x.weight(v, below(5) - 2);
        }
        int module = built(x);
        int other = changed(x, module);
        for (int v = 0; v < vertices; v++) {
            int vertex = v;
            same("top", () -> x.top(module, vertex), () -> x.top(other, vertex));
            same("socle", () -> x.socle(module, vertex), () -> x.socle(other, vertex));
            same("syzygy", () -> x.syzygy(module, 1, vertex), () -> x.syzygy(other, 1, vertex));
        }
        for (int i = 0; i < ends.length / 2; i++) {
            int a = i;
            same("rank", () -> x.rank(module, a), () -> x.rank(other, a));
        }
        same("layers", () -> x.layers(module), () -> x.layers(other));
        same("maps", () -> x.maps(module, 0), () -> x.maps(other, 0));
        same("maps", () -> x.maps(0, module), () -> x.maps(0, other));
        same("maps", () -> x.maps(module, module), () -> x.maps(other, module));
        same("extensions", () -> x.extensions(module, 0), () -> x.extensions(other, 0));
        same("resolution", () -> x.resolution(module), () -> x.resolution(other));
        same("stability", () -> x.stability(module), () -> x.stability(other));
        same("alike", () -> x.areAlike(module, module), () -> x.areAlike(module, other));
        String steps = filtration(x, module);
        Check.due("filtration in another basis", () -> filtration(x, other), steps);
        String pieces = pieces(x, module);
        Check.due("pieces in another basis", () -> pieces(x, other), pieces);
        for (int round = 0; round < 3; round++) {
            int[] row = new int[vertices];
            for (int v = 0; v < vertices; v++) {
                row[v] = below(x.dimension(module, v) + 1);
            }
            same("submodules", () -> submodules(x, module, row), () -> submodules(x, other, row));
        }
    }

    private static void same(String what, Check.Call one, Check.Call two) {
        String due = Check.told(one);
        Check.due(what + " in another basis", two, due);
    }

    private static int submodules(Meshquiver x, int module, int[] row) {
        Check.type(x, row);
        return x.submodules(module);
    }

    /** A sum of up to four walks, as long as the dimensions allow one more. */
    private static int built(Meshquiver x) {
        int sum = walk(x);
        for (int i = 0; i < 3; i++) {
            int part = walk(x);
            int before = sum;
            String told = Check.told(() -> x.sum(before, part));
            sum = told.startsWith("throws") ? sum : Integer.parseInt(told);
        }
        return sum;
    }

    /** Takes steps at random; what is no string is tried again, and a simple module at the last. */
    private static int walk(Meshquiver x) {
        for (int round = 0; round < 20; round++) {
            int start = below(vertices);
            x.clearRow();
            for (int i = below(4); i > 0; i--) {
                int arrow = 1 + below(ends.length / 2);
                x.type(below(2) == 0 ? arrow : -arrow);
            }
            String told = Check.told(() -> x.string(start));
            if (!told.startsWith("throws")) {
                return Integer.parseInt(told);
            }
        }
        return x.simple(0);
    }

    /** Adds the module with new bases: each matrix has the new basis behind it, and the old one ahead. */
    private static int changed(Meshquiver x, int module) {
        int[][][] basis = new int[vertices][][];
        int[][][] back = new int[vertices][][];
        int[] dims = new int[vertices];
        for (int v = 0; v < vertices; v++) {
            dims[v] = x.dimension(module, v);
            basis[v] = identity(dims[v]);
            back[v] = identity(dims[v]);
            for (int i = 0; i < 8 && dims[v] > 1; i++) {
                mix(basis[v], back[v], dims[v]);
            }
        }
        int other = Check.module(x, dims);
        for (int a = 0; a < ends.length / 2; a++) {
            int from = ends[2 * a];
            int to = ends[2 * a + 1];
            int[][] matrix = new int[dims[to]][dims[from]];
            for (int i = 0; i < dims[to]; i++) {
                for (int j = 0; j < dims[from]; j++) {
                    matrix[i][j] = x.entryAt(module, a, i, j);
                }
            }
            int[][] then = times(times(basis[to], matrix, dims[from]), back[from], dims[from]);
            for (int i = 0; i < dims[to]; i++) {
                for (int j = 0; j < dims[from]; j++) {
                    x.entry(other, a, i, j, then[i][j]);
                }
            }
        }
        return other;
    }

    private static int[][] identity(int side) {
        int[][] result = new int[side][side];
        for (int i = 0; i < side; i++) {
            result[i][i] = 1;
        }
        return result;
    }

    /** Adds a row to another one, some times over, and undoes it in the columns of the inverse. */
    private static void mix(int[][] basis, int[][] back, int side) {
        int i = below(side);
        int j = (i + 1 + below(side - 1)) % side;
        int factor = 1 + below(prime - 1);
        for (int c = 0; c < side; c++) {
            basis[i][c] = (basis[i][c] + factor * basis[j][c]) % prime;
            back[c][j] = Math.floorMod(back[c][j] - factor * back[c][i], prime);
        }
    }

    private static int[][] times(int[][] one, int[][] two, int columns) {
        int[][] result = new int[one.length][columns];
        for (int i = 0; i < one.length; i++) {
            for (int j = 0; j < columns; j++) {
                for (int k = 0; k < two.length; k++) {
                    result[i][j] = (result[i][j] + one[i][k] * two[k][j]) % prime;
                }
            }
        }
        return result;
    }

    private static String filtration(Meshquiver x, int module) {
        StringBuilder text = new StringBuilder();
        for (int i = 0; i < 10; i++) {
            for (int v = 0; v < vertices; v++) {
                int step = i;
                int vertex = v;
                text.append(Check.told(() -> x.filtration(module, step, vertex))).append(' ');
            }
        }
        return text.toString();
    }

    /** The pieces as a text; that they are in their order, and add up to the module, is looked at. */
    private static String pieces(Meshquiver x, int module) {
        String told = Check.told(() -> x.pieces(module));
        if (told.startsWith("throws")) {
            return told;
        }
        StringBuilder text = new StringBuilder();
        int[] sums = new int[vertices];
        int before = 0;
        for (int i = 0; i < Integer.parseInt(told); i++) {
            int order = 0;
            for (int v = 0; v < vertices; v++) {
                int dimension = x.piece(module, i, v);
                sums[v] += dimension;
                order += 100000 * dimension;
                text.append(dimension);
            }
            for (int v = 0; v < vertices; v++) {
                order += x.piece(module, i, v) * (v == 0 ? 10000 : v == 1 ? 100 : 1);
            }
            Check.isTrue("pieces are in their order", before <= order);
            before = order;
            text.append(' ');
        }
        for (int v = 0; v < vertices; v++) {
            Check.isTrue("pieces add up to the module", sums[v] == x.dimension(module, v));
        }
        return text.toString();
    }
}
