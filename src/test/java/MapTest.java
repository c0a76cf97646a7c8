/** Promises 25 to 36: maps, pieces, syzygies, extensions, submodules, slopes and bars. */
public final class MapTest {
    private static final String IAE = "throws.IllegalArgumentException";
    private static final String ISE = "throws.IllegalStateException";
    private static final String IOOBE = "throws.IndexOutOfBoundsException";
    private static final String NSEE = "throws.NoSuchElementException";
    private static final String UOE = "throws.UnsupportedOperationException";

    public static void main(String[] args) {
        maps();
        alike();
        alikeEdges();
        pieces();
        piecesEdges();
        syzygies();
        syzygiesRefused();
        extensions();
        resolutions();
        submodules();
        submodulesEdges();
        weights();
        stability();
        filtration();
        slopesRefused();
        bars();
        barsRefused();
        Check.finish();
    }

    /** The dimensions of all pieces as a text. */
    private static String split(Meshquiver x, int module, int vertices) {
        StringBuilder text = new StringBuilder();
        for (int i = 0; i < x.pieces(module); i++) {
            text.append(i > 0 ? " " : "");
            for (int v = 0; v < vertices; v++) {
                text.append(x.piece(module, i, v));
            }
        }
        return text.toString();
    }

    private static String steps(Meshquiver x, int module, int vertices) {
        StringBuilder text = new StringBuilder();
        for (int i = 0; i < 10; i++) {
            int step = i;
            if (Check.told(() -> x.filtration(module, step, 0)).equals(NSEE)) {
                break;
            }
            text.append(i > 0 ? " " : "");
            for (int v = 0; v < vertices; v++) {
                text.append(x.filtration(module, i, v));
            }
        }
        return text.toString();
    }

    private static Meshquiver loop(int prime, int... power) {
        Meshquiver x = Check.quiver(1, 0, 0);
        x.field(prime);
        if (power.length > 0) {
            Check.type(x, power);
            x.zero();
        }
        return x;
    }

    private static void maps() {
        Meshquiver x = Check.quiver(2, 0, 1);
        x.projective(0);
        x.simple(0);
        x.simple(1);
        Check.due("P25 of a projective one to itself", () -> x.maps(0, 0), 1);
        Check.due("P25 onto its top", () -> x.maps(0, 1), 1);
        Check.due("P25 none from the top", () -> x.maps(1, 0), 0);
        Check.due("P25 the radical goes in", () -> x.maps(2, 0), 1);
        Check.due("P25 none to it", () -> x.maps(0, 2), 0);
        Check.module(x, 3, 2);
        Check.due("P25 of sums of simple ones", () -> x.maps(3, 3), 13);
        Check.due("P25 no such module", () -> x.maps(0, 4), IOOBE);
        Check.due("P25 no such module", () -> x.maps(-1, 0), IOOBE);
        Meshquiver y = loop(3);
        Check.module(y, 2);
        Check.fill(y, 0, 0, 2, 1, 1, 0, 1);
        Check.due("P25 what commutes with a block", () -> y.maps(0, 0), 2);
        y.simple(0);
        y.entry(1, 0, 0, 0, 2);
        Check.due("P25 unlike numbers", () -> y.maps(0, 1), 0);
        y.entry(1, 0, 0, 0, 1);
        Check.due("P25 like numbers", () -> y.maps(0, 1) + y.maps(1, 0), 2);
    }

    private static void alike() {
        Meshquiver x = loop(5);
        Check.module(x, 2);
        Check.fill(x, 0, 0, 2, 1, 1, 0, 1);
        Check.module(x, 2);
        Check.fill(x, 1, 0, 2, 1, 0, 3, 1);
        Check.module(x, 2);
        Check.fill(x, 2, 0, 2, 1, 0, 0, 1);
        Check.module(x, 3);
        Check.due("P26 another basis", () -> x.areAlike(0, 1), true);
        Check.due("P26 with itself", () -> x.areAlike(0, 0), true);
        Check.due("P26 a sum of two instead", () -> x.areAlike(0, 2), false);
        Check.due("P26 unlike dimensions", () -> x.areAlike(0, 3), false);
        Check.due("P26 no such module", () -> x.areAlike(0, 4), IOOBE);
        Check.due("P26 no such module", () -> x.areAlike(-1, 0), IOOBE);
        Meshquiver y = Check.quiver(3, 0, 1, 2, 1);
        Check.module(y, 1, 1, 1);
        Check.fill(y, 0, 0, 1, 1);
        Check.module(y, 1, 1, 1);
        Check.fill(y, 1, 1, 1, 1);
        Check.due("P26 the same ranks together, at other arrows", () -> y.areAlike(0, 1), false);
        Check.due("P26 zero modules", () -> y.areAlike(Check.module(y, 0, 0, 0), Check.module(y, 0, 0, 0)), true);
    }

    private static void alikeEdges() {
        // Maps of 3 and 4 dimensions, all: 12 numbers over 2 are 4096; one more is too many.
        Meshquiver x = Check.quiver(4);
        Check.module(x, 3, 1, 1, 1);
        Check.due("P26 4096 maps", () -> x.areAlike(0, 0), true);
        Check.module(x, 2, 3, 0, 0);
        Check.due("P26 8192 maps", () -> x.areAlike(1, 1), ISE);
        Check.module(x, 3, 2, 0, 0);
        Check.due("P26 many maps, but unlike dimensions", () -> x.areAlike(1, 2), false);
        Meshquiver y = Check.quiver(4);
        y.field(3);
        Check.module(y, 2, 1, 1, 1);
        Check.due("P26 2187 maps", () -> y.areAlike(0, 0), true);
        Check.module(y, 2, 2, 0, 0);
        Check.due("P26 6561 maps", () -> y.areAlike(1, 1), ISE);
        Meshquiver z = Check.quiver(4);
        z.field(5);
        Check.module(z, 2, 1, 0, 0);
        Check.due("P26 3125 maps", () -> z.areAlike(0, 0), true);
        Check.module(z, 2, 1, 1, 0);
        Check.due("P26 15625 maps", () -> z.areAlike(1, 1), ISE);
        Check.due("P27 15625 maps", () -> z.pieces(1), ISE);
        Check.due("P27 3125 maps", () -> z.pieces(0), 3);
    }

    private static void pieces() {
        Meshquiver x = Check.quiver(3, 0, 1, 1, 2);
        Check.module(x, 1, 2, 1);
        Check.fill(x, 0, 0, 1, 1, 1);
        Check.fill(x, 0, 1, 2, 1, 0);
        Check.due("P27 P28 through and left over", () -> split(x, 0, 3), "010 111");
        x.entry(0, 1, 0, 1, 1);
        Check.due("P27 P28 an entry makes it new", () -> split(x, 0, 3), "011 110");
        x.simple(2);
        Check.due("P27 a simple one", () -> split(x, 1, 3), "001");
        Check.due("P27 the first one again", () -> split(x, 0, 3), "011 110");
        x.sum(0, 1);
        Check.due("P27 of a sum", () -> split(x, 2, 3), "001 011 110");
        x.clearModules();
        x.simple(0);
        Check.due("P27 behind clearModules", () -> split(x, 0, 3), "100");
        // x squared plus x plus 1 has no root in 2 elements: one piece of dimension 2.
        Meshquiver y = loop(2);
        Check.module(y, 2);
        Check.fill(y, 0, 0, 2, 0, 1, 1, 1);
        Check.due("P27 no split over 2", () -> y.pieces(0), 1);
        Meshquiver z = loop(3);
        Check.module(z, 2);
        Check.fill(z, 0, 0, 2, 0, -1, 1, 0);
        Check.due("P27 x squared is -1 has no root in 3", () -> z.pieces(0), 1);
        Meshquiver w = loop(5);
        Check.module(w, 2);
        Check.fill(w, 0, 0, 2, 0, -1, 1, 0);
        Check.due("P27 but in 5", () -> split(w, 0, 1), "1 1");
        Check.module(w, 3);
        Check.fill(w, 1, 0, 3, 1, 1, 0, 0, 1, 0, 0, 0, 1);
        Check.due("P28 lesser ones first", () -> split(w, 1, 1), "1 2");
    }

    private static void piecesEdges() {
        Meshquiver x = Check.quiver(3, 0, 1, 1, 2);
        Check.module(x, 0, 0, 0);
        Check.due("P27 of 0", () -> x.pieces(0), 0);
        Check.due("P28 of 0", () -> x.piece(0, 0, 0), NSEE);
        Check.module(x, 0, 4, 0);
        Check.due("P27 too many maps", () -> x.pieces(1), ISE);
        Check.due("P28 too many maps", () -> x.piece(1, 0, 0), ISE);
        Check.due("P28 maps come ahead of the index", () -> x.piece(1, 99, 0), ISE);
        Check.module(x, 1, 1, 1);
        Check.due("P28 no such piece", () -> x.piece(2, 3, 0), NSEE);
        Check.due("P28 no such piece", () -> x.piece(2, -1, 0), NSEE);
        Check.due("P28 by the last vertex first", () -> split(x, 2, 3), "001 010 100");
        Check.due("P28 no such vertex", () -> x.piece(1, 0, 3), IOOBE);
        Check.due("P28 no such module", () -> x.piece(3, 0, 0), IOOBE);
        Check.due("P27 no such module", () -> x.pieces(3), IOOBE);
        Check.due("P27 no such module", () -> x.pieces(-1), IOOBE);
    }

    private static void syzygies() {
        Meshquiver x = Check.quiver(3, 0, 1, 1, 2);
        Check.type(x, 0, 1);
        x.zero();
        x.simple(0);
        Check.due("P29 itself", () -> x.syzygy(0, 0, 0), 1);
        Check.due("P29 once", () -> x.syzygy(0, 1, 1), 1);
        Check.due("P29 once, elsewhere", () -> x.syzygy(0, 1, 2), 0);
        Check.due("P29 twice", () -> x.syzygy(0, 2, 2), 1);
        Check.due("P29 three times", () -> x.syzygy(0, 3, 2), 0);
        Meshquiver y = loop(3, 0, 0, 0);
        y.simple(0);
        int[] due = {1, 2, 1, 2, 1, 2, 1};
        for (int t = 0; t <= 6; t++) {
            int times = t;
            Check.due("P29 to and fro", () -> y.syzygy(0, times, 0), due[t]);
        }
        Check.due("P29 too many times", () -> y.syzygy(0, 7, 0), IAE);
        Check.due("P29 below 0", () -> y.syzygy(0, -1, 0), IAE);
        Check.due("P29 no such vertex", () -> y.syzygy(0, 9, 1), IOOBE);
        Check.due("P29 no such module", () -> y.syzygy(1, 9, 0), IOOBE);
        // Kronecker's quiver: the cover of a simple one at 0 has two more at 1.
        Meshquiver k = Check.quiver(2, 0, 1, 0, 1);
        Check.module(k, 2, 1);
        Check.fill(k, 0, 0, 2, 1, 0);
        Check.fill(k, 0, 1, 2, 0, 1);
        Check.due("P29 two generators", () -> k.syzygy(0, 1, 1), 3);
        Check.due("P29 a syzygy is projective here", () -> k.syzygy(0, 2, 1), 0);
    }

    private static void syzygiesRefused() {
        Meshquiver x = loop(2, 0, 0);
        Check.module(x, 2);
        x.entry(0, 0, 0, 0, 1);
        Check.due("P29 relations do not hold", () -> x.syzygy(0, 0, 0), UOE);
        Check.due("P29 the times come first", () -> x.syzygy(0, 7, 0), IAE);
        Check.due("P31 relations do not hold", () -> x.resolution(0), UOE);
        x.simple(0);
        Check.due("P30 not in the first", () -> x.extensions(0, 1), UOE);
        Check.due("P30 not in the other", () -> x.extensions(1, 0), UOE);
        Meshquiver free = Check.quiver(1, 0, 0);
        free.simple(0);
        Check.due("P29 not finite", () -> free.syzygy(0, 0, 0), UOE);
        Check.due("P30 not finite", () -> free.extensions(0, 0), UOE);
        Check.due("P31 not finite", () -> free.resolution(0), UOE);
        // Two loops, all paths of two arrows zero: covers have 3, 6, 12, 24 and 48 dimensions.
        Meshquiver wide = Check.quiver(1, 0, 0, 0, 0);
        for (int i = 0; i < 4; i++) {
            Check.type(wide, i / 2, i % 2);
            wide.zero();
        }
        wide.simple(0);
        Check.due("P29 four covers", () -> wide.syzygy(0, 4, 0), 16);
        Check.due("P29 the fifth is too great", () -> wide.syzygy(0, 5, 0), UOE);
        Check.due("P31 so it has no end that is met", () -> wide.resolution(0), UOE);
        Check.due("P30 the first cover alone counts", () -> wide.extensions(0, 0), 2);
        edgeOfCovers();
    }

    private static void edgeOfCovers() {
        // One vertex with four more behind two arrows or one: projective dimensions 1 + 4 + ...
        Meshquiver x = Check.quiver(5, 0, 1, 0, 1, 0, 1, 0, 2, 0, 2, 0, 3, 0, 4);
        Check.module(x, 4, 0, 0, 0, 0);
        // Each generator at 0 has 1 + 3 + 2 + 1 + 1 paths: 32 together.
        Check.due("P29 32 dimensions", () -> x.syzygy(0, 1, 1), 12);
        Check.module(x, 4, 2, 2, 2, 0);
        // 32 and 6 more simple projective ones: 38.
        Check.due("P29 38 dimensions", () -> x.syzygy(1, 1, 1), 12);
        Check.module(x, 4, 4, 2, 0, 0);
        Check.due("P30 38 dimensions", () -> x.extensions(1, 0), 0);
        Meshquiver y = Check.quiver(5, 0, 1, 0, 1, 1, 2, 0, 3, 0, 3, 3, 4, 0, 4);
        // From 0: 1 + 2 + 2 + 2 + 3 paths.
        Check.module(y, 4, 0, 0, 0, 0);
        Check.due("P29 just 40 dimensions", () -> y.syzygy(0, 1, 4), 12);
        Check.module(y, 4, 0, 0, 0, 1);
        Check.due("P29 41 dimensions", () -> y.syzygy(1, 1, 4), UOE);
        Check.due("P29 none is met", () -> y.syzygy(1, 0, 4), 1);
        Check.due("P30 41 dimensions", () -> y.extensions(1, 0), UOE);
        Check.due("P30 as the other one it may be", () -> y.extensions(0, 1), 4);
        Check.due("P31 41 dimensions", () -> y.resolution(1), UOE);
        Check.due("P31 just 40 dimensions", () -> y.resolution(0), 1);
    }

    private static void extensions() {
        Meshquiver x = Check.quiver(3, 0, 1, 1, 2, 0, 2);
        for (int v = 0; v < 3; v++) {
            x.simple(v);
        }
        Check.due("P30 along an arrow", () -> x.extensions(0, 1), 1);
        Check.due("P30 not against it", () -> x.extensions(1, 0), 0);
        Check.due("P30 along the other", () -> x.extensions(0, 2), 1);
        Check.due("P30 with itself", () -> x.extensions(0, 0), 0);
        Check.due("P30 no such module", () -> x.extensions(0, 3), IOOBE);
        Check.due("P30 no such module", () -> x.extensions(-1, 0), IOOBE);
        Meshquiver y = loop(5, 0, 0, 0);
        y.simple(0);
        Check.module(y, 2);
        y.entry(1, 0, 1, 0, 1);
        y.projective(0);
        Check.due("P30 of a loop", () -> y.extensions(0, 0), 1);
        Check.due("P30 of a longer one", () -> y.extensions(1, 1), 1);
        Check.due("P30 none of a projective one", () -> y.extensions(2, 0), 0);
        Check.due("P30 it is injective too", () -> y.extensions(0, 2), 0);
        Check.due("P30 of nothing", () -> y.extensions(Check.module(y, 0), 0), 0);
    }

    private static void resolutions() {
        Meshquiver x = Check.quiver(5, 0, 1, 1, 2, 2, 3, 3, 4);
        for (int i = 0; i < 3; i++) {
            Check.type(x, i, i + 1);
            x.zero();
        }
        for (int v = 0; v < 5; v++) {
            x.simple(v);
            int vertex = v;
            Check.due("P31 of a simple one", () -> x.resolution(vertex), 4 - v);
        }
        Check.due("P31 of 0", () -> x.resolution(Check.module(x, 0, 0, 0, 0, 0)), -1);
        Check.due("P31 of a projective one", () -> x.resolution(x.projective(0)), 0);
        Check.due("P31 no such module", () -> x.resolution(7), IOOBE);
        Check.due("P31 no such module", () -> x.resolution(-1), IOOBE);
        Meshquiver y = loop(2, 0, 0);
        y.simple(0);
        Check.due("P31 without end", () -> y.resolution(0), NSEE);
        Check.due("P31 of a free one", () -> y.resolution(y.projective(0)), 0);
        longestResolutions();
    }

    /**
     * A ring of n vertices, on which paths are zero that begin at few places, has resolutions whose
     * length goes beyond the vertices: here those that are found are compared with syzygies.
     */
    private static void longestResolutions() {
        Meshquiver x = Check.quiver(4, 0, 1, 1, 2, 2, 3, 3, 0);
        int[][] told = {{0, 1}, {1, 2, 3}, {2, 3, 0}, {3, 0}};
        for (int[] z : told) {
            Check.type(x, z);
            x.zero();
        }
        for (int v = 0; v < 4; v++) {
            x.simple(v);
            int vertex = v;
            String length = Check.told(() -> x.resolution(vertex));
            int last = -1;
            for (int t = 0; t <= 6; t++) {
                int all = 0;
                for (int w = 0; w < 4; w++) {
                    all += x.syzygy(v, t, w);
                }
                last = all > 0 ? t : last;
            }
            Check.due("P31 the last syzygy that is not 0", () -> length.equals(NSEE) ? "6" : length, last);
        }
    }

    private static void submodules() {
        Meshquiver x = Check.quiver(2, 0, 1);
        Check.module(x, 2, 2);
        Check.fill(x, 0, 0, 2, 1, 0, 0, 1);
        int[][] asked = {{0, 0}, {0, 1}, {1, 1}, {1, 2}, {2, 1}, {1, 0}, {2, 2}};
        int[] due = {1, 3, 3, 3, 0, 0, 1};
        for (int i = 0; i < asked.length; i++) {
            Check.type(x, asked[i]);
            Check.due("P32 over 2", () -> x.submodules(0), due[i]);
        }
        x.clearModules();
        x.field(5);
        Check.module(x, 2, 1);
        Check.fill(x, 0, 0, 2, 1, 3);
        Check.type(x, 1, 0);
        Check.due("P32 the kernel", () -> x.submodules(0), 1);
        Check.type(x, 1, 1);
        Check.due("P32 all six lines", () -> x.submodules(0), 6);
        Meshquiver y = loop(3);
        Check.module(y, 3);
        Check.type(y, 1);
        Check.due("P32 points of a plane", () -> y.submodules(0), 13);
        Check.fill(y, 0, 0, 3, 1, 0, 0, 0, 2, 0, 0, 0, 0);
        Check.type(y, 1);
        Check.due("P32 three unlike numbers", () -> y.submodules(0), 3);
        Check.type(y, 2);
        Check.due("P32 and planes of them", () -> y.submodules(0), 3);
    }

    private static void submodulesEdges() {
        Meshquiver x = Check.quiver(2);
        x.field(5);
        Check.module(x, 4, 4);
        int[][] impossible = {{5, 0}, {-1, 2}, {2, 9}};
        for (int[] dims : impossible) {
            Check.type(x, dims);
            Check.due("P32 a dimension that cannot be", () -> x.submodules(0), 0);
            Check.due("P32 it empties the row", () -> x.clearRow(), 0);
        }
        Check.type(x, 2, 2);
        Check.due("P32 806 times 806 ways", () -> x.submodules(0), ISE);
        Check.due("P32 a throwing call keeps the row", () -> x.clearRow(), 2);
        Check.type(x, 1, 1);
        Check.due("P32 156 times 156 ways", () -> x.submodules(0), ISE);
        Check.type(x, 2, 0);
        Check.due("P32 806 ways", () -> x.submodules(0), 806);
        Check.type(x, 2);
        Check.due("P32 too few", () -> x.submodules(0), IAE);
        Check.type(x, 2, 2, 2);
        Check.due("P32 too many", () -> x.submodules(0), IAE);
        Check.due("P32 the module comes first", () -> x.submodules(1), IOOBE);
        Check.due("P32 no such module", () -> x.submodules(-1), IOOBE);
        Meshquiver none = new Meshquiver();
        none.module();
        Check.due("P32 without vertices", () -> none.submodules(0), 1);
        Meshquiver y = Check.quiver(3);
        Check.module(y, 4, 4, 2);
        Check.type(y, 2, 2, 0);
        Check.due("P32 35 times 35", () -> y.submodules(0), 1225);
        Check.type(y, 2, 2, 1);
        Check.due("P32 35 times 35 times 3", () -> y.submodules(0), 3675);
    }

    private static void weights() {
        Meshquiver x = Check.quiver(2, 0, 1);
        Check.due("P33 0 at first", () -> x.weight(1, -9), 0);
        Check.due("P33 the one before", () -> x.weight(1, 9), -9);
        Check.due("P33 each its own", () -> x.weight(0, 3), 0);
        Check.due("P33 out of range", () -> x.weight(0, 10), IAE);
        Check.due("P33 out of range", () -> x.weight(0, -10), IAE);
        Check.due("P33 no such vertex", () -> x.weight(2, 0), IOOBE);
        Check.due("P33 the vertex comes first", () -> x.weight(-1, 10), IOOBE);
        Check.due("P33 nothing was changed", () -> x.weight(0, 0), 3);
        x.vertex();
        Check.due("P33 kept as the quiver grows", () -> x.weight(1, 0), 9);
    }

    private static void stability() {
        Meshquiver x = Check.quiver(2, 0, 1);
        x.projective(0);
        Check.due("P34 all slopes alike", () -> x.stability(0), 'm');
        x.weight(0, 1);
        Check.due("P34 the radical has less", () -> x.stability(0), 's');
        x.weight(1, 2);
        Check.due("P34 the radical has more", () -> x.stability(0), 'u');
        x.simple(1);
        Check.due("P34 a simple one", () -> x.stability(1), 's');
        Check.module(x, 1, 1);
        x.weight(1, 0);
        Check.due("P34 a sum, one has more", () -> x.stability(2), 'u');
        x.weight(0, 0);
        Check.due("P34 a sum of like slopes", () -> x.stability(2), 'm');
        x.weight(0, 2);
        Check.due("P34 u before", () -> x.stability(2), 'u');
        x.entry(2, 0, 0, 0, 1);
        Check.due("P34 an entry makes it new", () -> x.stability(2), 's');
        Check.type(x, 1, 0);
        x.submodules(1);
        Check.due("P34 whatever is counted between", () -> x.stability(2), 's');
        Meshquiver k = Check.quiver(2, 0, 1, 0, 1);
        Check.module(k, 2, 2);
        Check.fill(k, 0, 0, 2, 1, 0, 0, 1);
        Check.fill(k, 0, 1, 2, 0, 1, 1, 1);
        k.weight(0, 1);
        Check.due("P34 no line goes to a line over 2", () -> k.stability(0), 's');
        k.entry(0, 1, 1, 0, 0);
        Check.due("P34 one does", () -> k.stability(0), 'm');
    }

    private static void filtration() {
        Meshquiver x = Check.quiver(3, 0, 1, 1, 2);
        x.projective(0);
        Check.due("P35 one step for all", () -> steps(x, 0, 3), "111");
        x.weight(1, 1);
        x.weight(2, 2);
        Check.due("P35 each by itself", () -> steps(x, 0, 3), "001 010 100");
        x.weight(2, 1);
        Check.due("P35 two of a slope together", () -> steps(x, 0, 3), "011 100");
        x.weight(2, 0);
        Check.due("P35 the middle lifts the last", () -> steps(x, 0, 3), "011 100");
        x.weight(2, -9);
        x.weight(0, 4);
        Check.due("P35 the last pulls no more", () -> steps(x, 0, 3), "111");
        Check.due("P35 and it is stable", () -> x.stability(0), 's');
        Check.module(x, 2, 1, 0);
        Check.fill(x, 1, 0, 2, 1, 0);
        Check.due("P35 a part that is split off", () -> steps(x, 1, 3), "100 110");
        x.entry(1, 0, 0, 0, 0);
        Check.due("P35 an entry makes it new", () -> steps(x, 1, 3), "200 010");
        x.weight(1, 4);
        Check.due("P35 a weight makes it new", () -> steps(x, 1, 3), "210");
        Check.due("P35 the first module again", () -> x.filtration(0, 0, 2), 1);
    }

    private static void slopesRefused() {
        Meshquiver x = Check.quiver(3);
        Check.module(x, 4, 4, 2);
        // 67 times 67 times 5 ways.
        Check.due("P34 22445 ways", () -> x.stability(0), ISE);
        Check.due("P35 22445 ways", () -> x.filtration(0, 0, 0), ISE);
        Check.due("P35 ways come ahead of steps", () -> x.filtration(0, -1, 0), ISE);
        Check.due("P35 the vertex comes first", () -> x.filtration(0, 0, 3), IOOBE);
        Check.module(x, 4, 4, 1);
        Check.due("P34 8978 ways", () -> x.stability(1), 'm');
        Check.module(x, 0, 0, 0);
        Check.due("P34 of 0", () -> x.stability(2), NSEE);
        Check.due("P35 of 0", () -> x.filtration(2, 0, 0), NSEE);
        Check.due("P35 below 0", () -> x.filtration(1, -1, 0), NSEE);
        Check.due("P35 beyond", () -> x.filtration(1, 1, 0), NSEE);
        Check.due("P34 no such module", () -> x.stability(3), IOOBE);
        Check.due("P34 no such module", () -> x.stability(-1), IOOBE);
        Check.due("P35 no such module", () -> x.filtration(3, 0, 0), IOOBE);
        Check.due("P35 no such vertex", () -> x.filtration(1, 0, -1), IOOBE);
        Meshquiver y = Check.quiver(2);
        y.field(5);
        Check.module(y, 4, 2);
        Check.due("P34 1120 times 8 ways", () -> y.stability(0), 'm');
        Check.module(y, 4, 3);
        Check.due("P34 1120 times 64 ways", () -> y.stability(1), ISE);
    }

    private static void bars() {
        Meshquiver x = Check.quiver(4, 0, 1, 2, 1, 2, 3);
        Check.module(x, 1, 2, 2, 1);
        Check.fill(x, 0, 0, 1, 1, 0);
        Check.fill(x, 0, 1, 2, 1, 0, 0, 0);
        Check.fill(x, 0, 2, 2, 0, 1);
        int[][] due = {{0, 2, 1}, {2, 3, 1}, {1, 1, 1}, {0, 3, 0}, {0, 1, 0}, {3, 3, 0}};
        for (int[] bar : due) {
            Check.due("P36 bars", () -> x.bars(0, bar[0], bar[1]), bar[2]);
        }
        x.entry(0, 2, 0, 0, 1);
        x.entry(0, 2, 0, 1, 0);
        Check.due("P36 one through all", () -> x.bars(0, 0, 3), 1);
        Check.module(x, 0, 4, 0, 0);
        Check.due("P36 of many maps", () -> x.bars(1, 0, 3), ISE);
        Meshquiver y = Check.quiver(2, 0, 1);
        y.simple(0);
        y.sum(0, 0);
        Check.due("P36 two alike", () -> y.bars(1, 0, 0), 2);
        Check.due("P36 none there", () -> y.bars(1, 1, 1), 0);
        Meshquiver z = Check.quiver(1);
        z.simple(0);
        Check.due("P36 one vertex", () -> z.bars(0, 0, 0), 1);
    }

    private static void barsRefused() {
        Meshquiver x = Check.quiver(3, 0, 1, 0, 2);
        x.simple(0);
        Check.due("P36 not 1 and 2", () -> x.bars(0, 0, 0), UOE);
        Check.due("P36 the wrong way round", () -> x.bars(0, 1, 0), IOOBE);
        Check.due("P36 no such vertex", () -> x.bars(0, 0, 3), IOOBE);
        Check.due("P36 no such vertex", () -> x.bars(0, -1, 0), IOOBE);
        Check.due("P36 no such module", () -> x.bars(1, 0, 0), IOOBE);
        Meshquiver two = Check.quiver(2, 0, 1, 0, 1);
        two.simple(0);
        Check.due("P36 two arrows", () -> two.bars(0, 0, 0), UOE);
        Meshquiver apart = Check.quiver(2);
        apart.simple(0);
        Check.due("P36 no arrow", () -> apart.bars(0, 0, 0), UOE);
        Meshquiver zero = Check.quiver(3, 0, 1, 1, 2);
        Check.type(zero, 0, 1);
        zero.zero();
        zero.simple(0);
        Check.due("P36 a zero path", () -> zero.bars(0, 0, 0), UOE);
        Meshquiver looped = Check.quiver(2, 0, 0);
        looped.simple(0);
        Check.due("P36 a loop", () -> looped.bars(0, 0, 0), UOE);
        Meshquiver other = Check.quiver(3, 2, 1, 0, 1);
        Check.module(other, 1, 1, 1);
        other.entry(0, 0, 0, 0, 1);
        Check.due("P36 arrows in another order", () -> other.bars(0, 1, 2), 1);
        Meshquiver twice = Check.quiver(3, 0, 1, 1, 0);
        twice.simple(0);
        Check.due("P36 as many arrows, but one pair twice", () -> twice.bars(0, 0, 0), UOE);
    }
}
