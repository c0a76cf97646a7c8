/** Promises 1 to 10: the row, the quiver, zero paths, the field, paths. */
public final class QuiverTest {
    private static final String IAE = "throws.IllegalArgumentException";
    private static final String ISE = "throws.IllegalStateException";
    private static final String IOOBE = "throws.IndexOutOfBoundsException";
    private static final String UOE = "throws.UnsupportedOperationException";

    public static void main(String[] args) {
        newObject();
        row();
        rowStaysBehindOtherCalls();
        vertices();
        arrows();
        zeros();
        field();
        finiteness();
        paths();
        clearModules();
        Check.finish();
    }

    private static void newObject() {
        Meshquiver x = new Meshquiver();
        Check.due("P1 no vertex", () -> x.frieze(0), IOOBE);
        Check.due("P1 no module", () -> x.clearModules(), 0);
        Check.due("P1 an empty row", () -> x.clearRow(), 0);
        Check.due("P1 the field is 2", () -> x.field(2), 2);
        Check.due("P1 finite without vertices", () -> x.isFinite(), true);
        Check.due("P1 consistent", () -> x.isConsistent(), true);
        Check.due("P1 the empty module", () -> x.module(), 0);
        Meshquiver y = new Meshquiver();
        Check.due("P1 objects are apart", () -> y.clearModules(), 0);
    }

    private static void row() {
        Meshquiver x = new Meshquiver();
        for (int i = 1; i <= 8; i++) {
            int count = i;
            Check.due("P2 type", () -> x.type(count == 8 ? -9 : 9), count);
        }
        Check.due("P2 the ninth", () -> x.type(0), ISE);
        Check.due("P2 range comes first", () -> x.type(10), IAE);
        Check.due("P2 below the range", () -> x.type(-10), IAE);
        Check.due("P2 far beyond", () -> x.type(Integer.MIN_VALUE), IAE);
        Check.due("P3 clearRow", () -> x.clearRow(), 8);
        Check.due("P3 and again", () -> x.clearRow(), 0);
        Check.due("P2 from the beginning", () -> x.type(3), 1);
    }

    private static void rowStaysBehindOtherCalls() {
        Meshquiver x = Check.quiver(2, 0, 1, 1, 0);
        Check.type(x, 0, 1);
        x.field(3);
        x.isFinite();
        x.simple(0);
        x.pieces(0);
        x.stability(0);
        Check.due("the row stays", () -> x.clearRow(), 2);
        Check.type(x, 0, 1);
        Check.due("P6 with modules", () -> x.zero(), UOE);
        Check.due("a throwing zero() leaves the row", () -> x.clearRow(), 2);
        x.clearModules();
        Check.type(x, 0, 1);
        x.zero();
        Check.due("zero() empties it", () -> x.clearRow(), 0);
        Check.type(x, 1, 5);
        Check.due("module() of too great dimensions", () -> x.module(), IAE);
        Check.due("a throwing module() leaves the row", () -> x.clearRow(), 2);
        Check.type(x, 1, 1);
        x.module();
        Check.due("module() empties it", () -> x.clearRow(), 0);
        Check.type(x, 0, 0);
        x.submodules(0);
        Check.due("submodules() empties it", () -> x.clearRow(), 0);
        Check.type(x, 2, 0, 1, 1);
        Check.due("form", () -> x.form(), 2 - 2);
        Check.due("form() empties it", () -> x.clearRow(), 0);
        Check.type(x, 1);
        x.string(0);
        Check.due("string() empties it", () -> x.clearRow(), 0);
        Check.type(x, 1, 1);
        Check.due("no walk", () -> x.string(0), IAE);
        Check.due("a throwing string() leaves the row", () -> x.clearRow(), 2);
        Check.type(x, 0, 0, 0);
        Check.due("too many dimensions", () -> x.submodules(0), IAE);
        Check.due("too few for form", () -> x.form(), IAE);
        Check.due("throwing calls leave the row", () -> x.clearRow(), 3);
    }

    private static void vertices() {
        Meshquiver x = new Meshquiver();
        for (int v = 0; v < 5; v++) {
            int number = v;
            Check.due("P4 vertex", () -> x.vertex(), number);
        }
        Check.due("P4 the sixth", () -> x.vertex(), ISE);
        x.simple(0);
        Check.due("P4 modules come first", () -> x.vertex(), UOE);
        Meshquiver y = Check.quiver(2, 0, 1);
        y.turn(0);
        Check.due("P4 turned before", () -> y.turned(0, 1), -1);
        Check.due("P4 a vertex", () -> y.vertex(), 2);
        Check.due("P4 b as from the quiver", () -> y.turned(0, 1), 1);
        Check.due("P4 frieze numbers are 1", () -> y.frieze(0), 1);
        Check.due("P4 of the new one too", () -> y.frieze(2), 1);
    }

    private static void arrows() {
        Meshquiver x = Check.quiver(2);
        Check.due("P5 no such beginning", () -> x.arrow(2, 0), IOOBE);
        Check.due("P5 no such end", () -> x.arrow(0, -1), IOOBE);
        for (int a = 0; a < 7; a++) {
            int number = a;
            Check.due("P5 arrow", () -> x.arrow(0, 1), number);
        }
        Check.due("P5 the eighth", () -> x.arrow(0, 1), ISE);
        x.simple(0);
        Check.due("P5 modules come ahead of room", () -> x.arrow(0, 1), UOE);
        Check.due("P5 vertices come ahead of modules", () -> x.arrow(0, 2), IOOBE);
        Check.due("P5 many arrows", () -> x.turned(0, 1), 7);
        Meshquiver y = Check.quiver(3, 0, 1);
        y.turn(1);
        y.arrow(1, 2);
        Check.due("P5 b as from the quiver", () -> y.turned(0, 1), 1);
        Check.due("P5 frieze as from the quiver", () -> y.frieze(1), 1);
    }

    private static void zeros() {
        Meshquiver x = Check.quiver(3, 0, 1, 1, 2, 2, 0);
        Check.type(x, 0);
        Check.due("P6 too short", () -> x.zero(), IAE);
        Check.type(x, 0, 1, 2, 0, 1);
        Check.due("P6 too long", () -> x.zero(), IAE);
        Check.type(x, 1, 0);
        Check.due("P6 no path", () -> x.zero(), IAE);
        Check.type(x, 0, 3);
        Check.due("P6 no such arrow", () -> x.zero(), IAE);
        Check.type(x, 0, -1);
        Check.due("P6 below 0", () -> x.zero(), IAE);
        x.clearRow();
        Check.due("P6 empty", () -> x.zero(), IAE);
        for (int i = 1; i <= 5; i++) {
            int count = i;
            Check.type(x, 0, 1, 2, 0);
            Check.due("P6 the same one counts again", () -> x.zero(), count);
        }
        Check.type(x, 0, 1);
        Check.due("P6 the sixth", () -> x.zero(), ISE);
        x.simple(0);
        Check.due("P6 modules come ahead of room", () -> x.zero(), UOE);
        Check.type(x, 1, 0);
        Check.due("P6 the path comes first", () -> x.zero(), IAE);
    }

    private static void field() {
        Meshquiver x = Check.quiver(1);
        Check.due("P7 from 2", () -> x.field(3), 2);
        Check.due("P7 from 3", () -> x.field(5), 3);
        Check.due("P7 from 5", () -> x.field(5), 5);
        for (int bad : new int[] {0, 1, 4, 6, 7, -2}) {
            Check.due("P7 no prime of these", () -> x.field(bad), IAE);
        }
        x.simple(0);
        Check.due("P7 with modules", () -> x.field(2), UOE);
        Check.due("P7 the prime comes first", () -> x.field(4), IAE);
        x.clearModules();
        Check.due("P7 nothing was changed", () -> x.field(2), 5);
    }

    private static void finiteness() {
        Meshquiver x = Check.quiver(1, 0, 0);
        Check.due("P8 a loop", () -> x.isFinite(), false);
        Check.type(x, 0, 0, 0);
        x.zero();
        Check.due("P8 a loop that ends", () -> x.isFinite(), true);
        Check.due("P9 1, x, xx", () -> x.paths(0, 0), 3);
        Meshquiver ring = Check.quiver(5, 0, 1, 1, 2, 2, 3, 3, 4, 4, 0);
        Check.due("P8 a ring", () -> ring.isFinite(), false);
        Check.due("P9 of a ring", () -> ring.paths(0, 0), UOE);
        Check.type(ring, 1, 2);
        ring.zero();
        Check.due("P8 a ring with no way round", () -> ring.isFinite(), true);
        Meshquiver wide = Check.quiver(2, 0, 0, 0, 0, 0, 1, 0, 1, 0, 1);
        Check.due("P8 two loops", () -> wide.isFinite(), false);
        edgeOfFiniteness();
    }

    /** 28 words of two loops, each with an arrow ahead or not, and 4 more empty paths. */
    private static void edgeOfFiniteness() {
        Meshquiver x = Check.quiver(5, 0, 0, 0, 0, 1, 0);
        int[][] told = {{0, 0, 0, 0}, {0, 1, 0}, {1, 1, 0}, {1, 1, 1, 0}, {1, 1, 1, 1}};
        for (int[] z : told) {
            Check.type(x, z);
            x.zero();
        }
        Check.due("P8 60 paths", () -> x.isFinite(), true);
        Check.due("P9 28 words", () -> x.paths(0, 0), 28);
        Check.due("P9 and as many behind an arrow", () -> x.paths(1, 0), 28);
        x.arrow(2, 3);
        Check.due("P8 61 paths", () -> x.isFinite(), false);
        Check.due("P9 61 paths", () -> x.paths(0, 0), UOE);
        Check.due("P16 61 paths", () -> x.projective(4), UOE);
        x.simple(4);
        Check.due("P29 61 paths", () -> x.syzygy(0, 0, 0), UOE);
        ringOfThree();
        wordsOfTwoLoops();
    }

    private static void ringOfThree() {
        Meshquiver ring = Check.quiver(3, 0, 1, 1, 2, 2, 0);
        Check.type(ring, 0, 1, 2, 0);
        ring.zero();
        // No path may hold the arrows 0 1 2 0: at most 3 of them behind vertex 0, 5 behind 1.
        Check.due("P8 one path ends all", () -> ring.isFinite(), true);
        Check.due("P9 from 1", () -> ring.paths(1, 0) + ring.paths(1, 1) + ring.paths(1, 2), 6);
        Check.due("P9 from 0 to 0", () -> ring.paths(0, 0), 2);
        Meshquiver wide = Check.quiver(4, 0, 1, 0, 1, 1, 2, 1, 2, 2, 3, 2, 3, 2, 3);
        Check.due("P8 many arrows one behind the other", () -> wide.isFinite(), true);
        Check.due("P9 2 times 2 times 3", () -> wide.paths(0, 3), 12);
    }

    /** Words of two loops, counted by brute force too. */
    private static void wordsOfTwoLoops() {
        int[][][] tellings = {
            {{0, 0}, {1, 1, 1}, {1, 0, 1, 0}},
            {{0, 0}, {1, 1}, {0, 1, 0, 1}},
            {{0, 0, 0}, {1, 1}, {1, 0, 1}},
            {{0, 0, 0}, {1, 1}, {1, 0, 1, 0}},
            {{0, 0, 0}, {1, 1}, {1, 0, 0, 1}},
            {{0, 0, 0}, {1, 1}, {1, 0, 1, 0}, {0, 1, 0, 1}},
            {{0, 0, 0}, {1, 1, 1}, {1, 0, 1}, {0, 1, 0}},
            {{0, 0, 0}, {1, 1, 1}, {1, 0, 1}, {0, 0, 1, 1}},
            {{0, 0, 0, 0}, {1, 1}, {1, 0, 1}},
            {{0, 0, 0, 0}, {1, 1, 1, 1}, {0, 1}},
            {{0, 0, 0, 0}, {1, 1, 1, 1}, {1, 0, 0}, {0, 1, 0}},
        };
        for (int[][] told : tellings) {
            for (int extra = 0; extra < 5; extra++) {
                Meshquiver x = Check.quiver(1 + extra, 0, 0, 0, 0);
                Reference y = new Reference();
                for (int v = 0; v <= extra; v++) {
                    y.vertex();
                }
                y.arrow(0, 0);
                y.arrow(0, 0);
                for (int[] z : told) {
                    Check.type(x, z);
                    x.zero();
                    for (int a : z) {
                        y.type(a);
                    }
                    y.zero();
                }
                Check.due("P8 as counted by words", () -> x.isFinite(), y.isFinite());
                Check.due("P9 as counted by words", () -> x.paths(0, 0), Check.told(() -> y.paths(0, 0)));
            }
        }
    }

    private static void paths() {
        Meshquiver x = Check.quiver(3, 0, 1, 0, 1, 1, 2);
        Check.due("P9 empty ones count", () -> x.paths(1, 1), 1);
        Check.due("P9 two arrows", () -> x.paths(0, 1), 2);
        Check.due("P9 two ways", () -> x.paths(0, 2), 2);
        Check.due("P9 none back", () -> x.paths(2, 0), 0);
        Check.type(x, 1, 2);
        x.zero();
        Check.due("P9 one way is zero", () -> x.paths(0, 2), 1);
        Check.due("P9 no such vertex", () -> x.paths(0, 3), IOOBE);
        Check.due("P9 no such vertex", () -> x.paths(-1, 0), IOOBE);
        x.arrow(2, 2);
        Check.due("P9 not finite", () -> x.paths(0, 0), UOE);
        Check.due("P9 the vertex comes first", () -> x.paths(0, 5), IOOBE);
    }

    private static void clearModules() {
        Meshquiver x = Check.quiver(2, 0, 1);
        x.projective(0);
        x.simple(1);
        Check.due("P10 clearModules", () -> x.clearModules(), 2);
        Check.due("P10 gone", () -> x.dimension(0, 0), IOOBE);
        Check.due("P10 the quiver opens again", () -> x.vertex(), 2);
        Check.due("P10 numbers begin again", () -> Check.module(x, 1, 1, 0), 0);
        Check.due("P10 matrices are new", () -> x.entryAt(0, 0, 0, 0), 0);
    }
}
