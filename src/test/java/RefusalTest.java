/**
 * Each 'Throws' row of the document, by promise: the exception that is named first where several
 * conditions hold, and that a refused call, asked twice, leaves the house as one that was never asked.
 */
public final class RefusalTest {
    private static final String IAE = "throws.IllegalArgumentException";
    private static final String ISE = "throws.IllegalStateException";
    private static final String IOOBE = "throws.IndexOutOfBoundsException";
    private static final String NSEE = "throws.NoSuchElementException";
    private static final String UOE = "throws.UnsupportedOperationException";
    private static final String NONE = "throws.ArithmeticException";
    private static final int[] NO_VERTEX = {-1, 3, 5, Integer.MAX_VALUE, Integer.MIN_VALUE};
    private static final int[] NO_MODULE_OF_3 = {-1, 3, 12, Integer.MAX_VALUE, Integer.MIN_VALUE};
    private static final int[] NO_MODULE_OF_12 = {-1, 12, 13, Integer.MAX_VALUE, Integer.MIN_VALUE};

    private interface House {
        Meshquiver made();
    }

    private interface Asked {
        Object of(Meshquiver x);
    }

    public static void main(String[] args) {
        type();
        vertexAndArrow();
        zero();
        field();
        paths();
        module();
        entry();
        oneModuleOneOther();
        simpleAndProjective();
        injective();
        string();
        sum();
        layersAndMeans();
        alikeAndPieces();
        syzygy();
        extensionsAndResolution();
        submodules();
        weight();
        slopes();
        bars();
        kindAndForm();
        rootsOfOtherKinds();
        rootsBeyond();
        mutate();
        clusters();
        Check.finish();
    }

    private static void refused(String what, House house, Asked call, String due) {
        Meshquiver x = house.made();
        Check.due(what, () -> call.of(x), due);
        Check.due(what + ", asked again", () -> call.of(x), due);
        Check.due(what + ", leaves all as it was", () -> Picture.of(x), Picture.of(house.made()));
        Meshquiver other = house.made();
        Check.told(() -> call.of(other));
        Check.due(what + ", leaves the row as it was", () -> Picture.ofRow(other), Picture.ofRow(house.made()));
    }

    private static Meshquiver typed(Meshquiver x, int... numbers) {
        Check.type(x, numbers);
        return x;
    }

    // ---- houses

    /** A row of three with three modules, of which much has been asked, and a row that is typed. */
    private static Meshquiver chain() {
        Meshquiver x = Check.quiver(3, 0, 1, 1, 2);
        x.turn(1);
        x.field(3);
        x.weight(0, 2);
        x.weight(2, -3);
        Check.module(x, 1, 2, 1);
        Check.fill(x, 0, 0, 1, 1, 2);
        Check.fill(x, 0, 1, 2, 1, 1);
        x.projective(0);
        x.simple(1);
        x.pieces(0);
        x.stability(0);
        x.roots();
        return typed(x, 1, 2, -3);
    }

    private static Meshquiver filled(Meshquiver x) {
        for (int i = 0; i < 12 && !Check.told(() -> x.simple(0)).startsWith("throws"); i++) {
            x.holds(0);
        }
        return x;
    }

    private static Meshquiver bareChain() {
        return typed(Check.quiver(3, 0, 1, 1, 2), 4, 5);
    }

    private static Meshquiver fullChain() {
        return filled(chain());
    }

    /** All that a quiver can have, and no module; 0 1 and 1 2 and so on are paths. */
    private static Meshquiver fullQuiver() {
        Meshquiver x = Check.quiver(5, 0, 1, 1, 2, 2, 3, 3, 4, 0, 2, 1, 3, 2, 4);
        for (int i = 0; i < 5; i++) {
            Check.type(x, i % 3, i % 3 + 1);
            x.zero();
        }
        return typed(x, 0, 1);
    }

    private static Meshquiver fullQuiverWithModule() {
        Meshquiver x = fullQuiver();
        x.simple(4);
        return x;
    }

    /** Without zero paths and not finite: two vertices that go to each other, and a loop. */
    private static Meshquiver ring() {
        Meshquiver x = Check.quiver(2, 0, 1, 1, 0, 1, 1);
        x.field(5);
        Check.module(x, 2, 1);
        Check.fill(x, 0, 0, 2, 1, 4);
        x.simple(1);
        return typed(x, 1);
    }

    /** A loop of which three times is zero; it does not hold in module 0. */
    private static Meshquiver broken() {
        Meshquiver x = Check.quiver(1, 0, 0);
        Check.type(x, 0, 0, 0);
        x.zero();
        Check.module(x, 3);
        Check.fill(x, 0, 0, 3, 1, 0, 0, 0, 0, 0, 0, 1, 0);
        x.simple(0);
        return typed(x, 2);
    }

    /** Modules 0 and 1 with all maps, too many of them; 2 with few. */
    private static Meshquiver apart() {
        Meshquiver x = Check.quiver(3);
        Check.module(x, 4, 0, 0);
        Check.module(x, 4, 0, 0);
        Check.module(x, 1, 2, 0);
        x.pieces(2);
        x.stability(2);
        return typed(x, 1, 2, 2);
    }

    /** Modules 0 and 1 with too many ways to take a space at each vertex; 2 with few. */
    private static Meshquiver wide() {
        Meshquiver x = Check.quiver(3, 0, 1);
        x.field(3);
        Check.module(x, 4, 4, 2);
        Check.module(x, 3, 3, 3);
        Check.module(x, 1, 1, 1);
        x.weight(1, 4);
        x.stability(2);
        return typed(x, 1, 2, 1);
    }

    // ---- promises 2 to 10

    private static void type() {
        House eight = () -> typed(Check.quiver(4, 0, 1, 1, 2), 1, 2, 3, 4, 5, 6, 7, 8);
        for (int bad : new int[] {10, -10, 11, 100, Integer.MAX_VALUE, Integer.MIN_VALUE}) {
            refused("P2 out of range", RefusalTest::chain, x -> x.type(bad), IAE);
            refused("P2 out of range ahead of room", eight, x -> x.type(bad), IAE);
        }
        for (int good : new int[] {9, -9, 0}) {
            refused("P2 the ninth number", eight, x -> x.type(good), ISE);
        }
    }

    private static void vertexAndArrow() {
        refused("P4 modules", RefusalTest::chain, x -> x.vertex(), UOE);
        refused("P4 five", RefusalTest::fullQuiver, x -> x.vertex(), ISE);
        refused("P4 modules ahead of five", RefusalTest::fullQuiverWithModule, x -> x.vertex(), UOE);
        for (int bad : NO_VERTEX) {
            refused("P5 no such beginning", RefusalTest::bareChain, x -> x.arrow(bad, 0), IOOBE);
            refused("P5 no such end", RefusalTest::bareChain, x -> x.arrow(0, bad), IOOBE);
            refused("P5 neither", RefusalTest::bareChain, x -> x.arrow(bad, bad), IOOBE);
            refused("P5 the vertex ahead of modules", RefusalTest::chain, x -> x.arrow(0, bad), IOOBE);
        }
        refused("P5 modules", RefusalTest::chain, x -> x.arrow(2, 0), UOE);
        refused("P5 seven", RefusalTest::fullQuiver, x -> x.arrow(4, 0), ISE);
        refused("P5 modules ahead of seven", RefusalTest::fullQuiverWithModule, x -> x.arrow(4, 0), UOE);
        refused("P5 the beginning ahead of all", RefusalTest::fullQuiverWithModule, x -> x.arrow(5, 0), IOOBE);
        refused("P5 the end ahead of all", RefusalTest::fullQuiverWithModule, x -> x.arrow(0, -1), IOOBE);
        refused("P5 the end ahead of seven", RefusalTest::fullQuiver, x -> x.arrow(0, 5), IOOBE);
        refused("P5 without vertices", Meshquiver::new, x -> x.arrow(0, 0), IOOBE);
    }

    private static void zero() {
        int[][] noPaths = {{}, {0}, {0, 2}, {1, 0}, {0, 1, 1}, {0, -1}, {-1, 0}, {0, 7}, {9, 9}, {0, 1, 2, 3, 4},
            {0, 1, 2, 3, 3}};
        for (int[] row : noPaths) {
            House bare = () -> typed(Check.quiver(4, 0, 1, 1, 2, 2, 3), row);
            refused("P6 no path of 2 to 4", bare, x -> x.zero(), IAE);
            refused("P6 no path ahead of modules", () -> typed(chain(), row), x -> x.zero(), IAE);
            refused("P6 no path ahead of five", () -> typed(fullQuiver(), row.length == 5 ? row : new int[] {1, 0}),
                    x -> x.zero(), IAE);
        }
        House loop = () -> typed(Check.quiver(1, 0, 0), 0, 0, 0, 0, 0);
        refused("P6 five times a loop", loop, x -> x.zero(), IAE);
        refused("P6 modules", () -> typed(chain(), 0, 1), x -> x.zero(), UOE);
        refused("P6 five", RefusalTest::fullQuiver, x -> x.zero(), ISE);
        refused("P6 five, of which it is one", () -> typed(fullQuiver(), 1, 2), x -> x.zero(), ISE);
        refused("P6 modules ahead of five", RefusalTest::fullQuiverWithModule, x -> x.zero(), UOE);
        refused("P6 no path ahead of all", () -> typed(fullQuiverWithModule(), 0), x -> x.zero(), IAE);
    }

    private static void field() {
        for (int bad : new int[] {0, 1, 4, 6, 7, 11, -2, -3, -5, 25, Integer.MIN_VALUE, Integer.MAX_VALUE}) {
            refused("P7 not 2, 3 or 5", RefusalTest::bareChain, x -> x.field(bad), IAE);
            refused("P7 not 2, 3 or 5 ahead of modules", RefusalTest::chain, x -> x.field(bad), IAE);
        }
        for (int good : new int[] {2, 3, 5}) {
            refused("P7 modules", RefusalTest::chain, x -> x.field(good), UOE);
        }
    }

    private static void paths() {
        for (int bad : NO_VERTEX) {
            refused("P9 no such beginning", RefusalTest::chain, x -> x.paths(bad, 0), IOOBE);
            refused("P9 no such end", RefusalTest::chain, x -> x.paths(0, bad), IOOBE);
            refused("P9 neither", RefusalTest::chain, x -> x.paths(bad, bad), IOOBE);
            refused("P9 the vertex ahead of the paths", RefusalTest::ring, x -> x.paths(bad, 0), IOOBE);
            refused("P9 the end ahead of the paths", RefusalTest::ring, x -> x.paths(0, bad), IOOBE);
        }
        refused("P9 not finite", RefusalTest::ring, x -> x.paths(0, 0), UOE);
    }

    // ---- promises 11 to 24

    private static void module() {
        int[][] bad = {{}, {1}, {1, 1}, {1, 1, 1, 1}, {1, 1, 1, 1, 1, 1, 1, 1}, {5, 0, 0}, {0, 5, 0}, {0, 0, 5},
            {-1, 0, 0}, {0, -1, 2}, {4, 4, -1}, {4, 4, 3}, {4, 3, 4}, {3, 4, 4}, {9, 9, 9}, {-9, 9, 9}};
        for (int[] row : bad) {
            refused("P11 no dimensions", () -> typed(chain(), row), x -> x.module(), IAE);
            refused("P11 no dimensions ahead of twelve", () -> typed(fullChain(), row), x -> x.module(), IAE);
        }
        refused("P11 twelve", () -> typed(fullChain(), 1, 1, 1), x -> x.module(), ISE);
        refused("P11 twelve, of 0", () -> typed(fullChain(), 0, 0, 0), x -> x.module(), ISE);
    }

    /** Module 0 of the chain has 2 rows and 1 column for arrow 0, 1 row and 2 columns for arrow 1. */
    private static void entry() {
        int[][] none = {{-1, 0, 0, 0}, {3, 0, 0, 0}, {0, -1, 0, 0}, {0, 2, 0, 0}, {0, 7, 0, 0}, {0, 0, -1, 0},
            {0, 0, 2, 0}, {0, 0, 0, -1}, {0, 0, 0, 1}, {0, 0, 1, 1}, {0, 1, 1, 0}, {0, 1, 0, 2}, {0, 1, 1, 1},
            {2, 0, 0, 0}, {2, 1, 0, 0}, {Integer.MAX_VALUE, 0, 0, 0}, {0, Integer.MIN_VALUE, 0, 0},
            {0, 0, Integer.MAX_VALUE, 0}, {0, 0, 0, Integer.MIN_VALUE}, {0, 1, 0, Integer.MAX_VALUE}};
        for (int[] at : none) {
            refused("P12 no such place", RefusalTest::chain, x -> x.entry(at[0], at[1], at[2], at[3], 1), IOOBE);
            refused("P12 no such place ahead of the number", RefusalTest::chain,
                    x -> x.entry(at[0], at[1], at[2], at[3], 10), IOOBE);
            refused("P13 no such place", RefusalTest::chain, x -> x.entryAt(at[0], at[1], at[2], at[3]), IOOBE);
        }
        for (int bad : new int[] {10, -10, 30, Integer.MAX_VALUE, Integer.MIN_VALUE}) {
            refused("P12 out of range", RefusalTest::chain, x -> x.entry(0, 0, 1, 0, bad), IAE);
        }
    }

    /** The calls that ask for a module, and a vertex, an arrow or another module, alone. */
    private static void oneModuleOneOther() {
        for (int bad : NO_MODULE_OF_3) {
            refused("P14 no such module", RefusalTest::chain, x -> x.holds(bad), IOOBE);
            refused("P20 no such module", RefusalTest::chain, x -> x.dimension(bad, 0), IOOBE);
            refused("P21 no such module", RefusalTest::chain, x -> x.rank(bad, 0), IOOBE);
            refused("P22 no such module", RefusalTest::chain, x -> x.top(bad, 0), IOOBE);
            refused("P23 no such module", RefusalTest::chain, x -> x.socle(bad, 0), IOOBE);
            refused("P25 no such module", RefusalTest::chain, x -> x.maps(bad, 0), IOOBE);
            refused("P25 no such other one", RefusalTest::chain, x -> x.maps(0, bad), IOOBE);
            refused("P51 no such module", RefusalTest::chain, x -> x.checksum(bad), IOOBE);
            refused("P52 no such module", RefusalTest::chain, x -> x.zeroShare(bad), IOOBE);
        }
        for (int bad : NO_VERTEX) {
            refused("P20 no such vertex", RefusalTest::chain, x -> x.dimension(0, bad), IOOBE);
            refused("P22 no such vertex", RefusalTest::chain, x -> x.top(0, bad), IOOBE);
            refused("P23 no such vertex", RefusalTest::chain, x -> x.socle(0, bad), IOOBE);
        }
        for (int bad : new int[] {-1, 2, 7, Integer.MAX_VALUE, Integer.MIN_VALUE}) {
            refused("P21 no such arrow", RefusalTest::chain, x -> x.rank(0, bad), IOOBE);
        }
    }

    private static void simpleAndProjective() {
        for (int bad : NO_VERTEX) {
            refused("P15 no such vertex", RefusalTest::chain, x -> x.simple(bad), IOOBE);
            refused("P15 no such vertex ahead of twelve", RefusalTest::fullChain, x -> x.simple(bad), IOOBE);
            refused("P16 no such vertex", RefusalTest::chain, x -> x.projective(bad), IOOBE);
            refused("P16 no such vertex ahead of twelve", RefusalTest::fullChain, x -> x.projective(bad), IOOBE);
            refused("P16 no such vertex ahead of paths", RefusalTest::ring, x -> x.projective(bad), IOOBE);
        }
        refused("P15 twelve", RefusalTest::fullChain, x -> x.simple(2), ISE);
        refused("P16 twelve", RefusalTest::fullChain, x -> x.projective(2), ISE);
        refused("P16 not finite", RefusalTest::ring, x -> x.projective(0), UOE);
        refused("P16 not finite ahead of twelve", () -> filled(ring()), x -> x.projective(0), UOE);
        refused("P16 five at a vertex", RefusalTest::fivefold, x -> x.projective(0), UOE);
        refused("P16 five at a vertex ahead of twelve", () -> filled(fivefold()), x -> x.projective(0), UOE);
        refused("P16 eleven together", RefusalTest::eleven, x -> x.projective(0), UOE);
        refused("P16 eleven together ahead of twelve", () -> filled(eleven()), x -> x.projective(0), UOE);
        refused("P16 no such vertex ahead of all", () -> filled(ring()), x -> x.projective(2), IOOBE);
    }

    /** From 0 five arrows to 1. */
    private static Meshquiver fivefold() {
        return typed(Check.quiver(2, 0, 1, 0, 1, 0, 1, 0, 1, 0, 1), 1, 2);
    }

    /** From 0 there are 1, 2, 4 and 4 paths; to 3 there are 4, 2, 1 and 1. */
    private static Meshquiver eleven() {
        return typed(Check.quiver(4, 0, 1, 0, 1, 1, 2, 1, 2, 2, 3), 3);
    }

    private static void injective() {
        for (int bad : NO_VERTEX) {
            refused("P17 no such vertex", RefusalTest::chain, x -> x.injective(bad), IOOBE);
            refused("P17 no such vertex ahead of twelve", RefusalTest::fullChain, x -> x.injective(bad), IOOBE);
            refused("P17 no such vertex ahead of paths", RefusalTest::ring, x -> x.injective(bad), IOOBE);
        }
        refused("P17 twelve", RefusalTest::fullChain, x -> x.injective(0), ISE);
        refused("P17 not finite", RefusalTest::ring, x -> x.injective(0), UOE);
        refused("P17 not finite ahead of twelve", () -> filled(ring()), x -> x.injective(0), UOE);
        refused("P17 five at a vertex", RefusalTest::fivefold, x -> x.injective(1), UOE);
        refused("P17 five at a vertex ahead of twelve", () -> filled(fivefold()), x -> x.injective(1), UOE);
        House back = () -> typed(Check.quiver(4, 1, 0, 1, 0, 2, 1, 2, 1, 3, 2), 3);
        refused("P17 eleven together", back, x -> x.injective(0), UOE);
        refused("P17 eleven together ahead of twelve", () -> filled(back.made()), x -> x.injective(0), UOE);
        refused("P17 no such vertex ahead of all", () -> filled(ring()), x -> x.injective(-1), IOOBE);
    }

    /** Arrow 0 from 0 to 1, arrow 1 from 1 to 2, of which both together are zero, and a loop at 2. */
    private static Meshquiver walks(int... row) {
        Meshquiver x = Check.quiver(3, 0, 1, 1, 2, 2, 2);
        Check.type(x, 0, 1);
        x.zero();
        x.simple(0);
        return typed(x, row);
    }

    private static void string() {
        int[][] noWalks = {{0}, {2}, {-1}, {1, 1}, {1, -2}, {3}, {4}, {-4}, {9}, {-9}, {1, 0}, {1, -1, 2}};
        for (int[] row : noWalks) {
            refused("P18 no walk", () -> walks(row), x -> x.string(0), IAE);
            refused("P18 no walk ahead of twelve", () -> filled(walks(row)), x -> x.string(0), IAE);
            refused("P18 no such vertex ahead of no walk", () -> walks(row), x -> x.string(3), IOOBE);
        }
        int[][] fromFirst = {{1, -1}, {1, 2}, {1, 2, 3}};
        int[][] fromLast = {{3, -3}, {-3, 3}, {-2, 2}, {-2, -1}, {3, 3, -2, -1}, {3, 3, 3, 3}, {-3, -3, -3, -3}};
        for (int[] row : fromFirst) {
            refused("P18 no string", () -> walks(row), x -> x.string(0), UOE);
            refused("P18 no string ahead of twelve", () -> filled(walks(row)), x -> x.string(0), UOE);
        }
        for (int[] row : fromLast) {
            refused("P18 no string", () -> walks(row), x -> x.string(2), UOE);
            refused("P18 no string ahead of twelve", () -> filled(walks(row)), x -> x.string(2), UOE);
            refused("P18 no such vertex ahead of all", () -> filled(walks(row)), x -> x.string(-1), IOOBE);
        }
        refused("P18 no walk ahead of a step undone", () -> walks(1, -1, 3), x -> x.string(0), IAE);
        refused("P18 no walk ahead of a zero path", () -> walks(1, 2, 1), x -> x.string(0), IAE);
        refused("P18 no walk ahead of five places", () -> walks(3, 3, 3, 3, 3, 3, 3, 2), x -> x.string(2), IAE);
        refused("P18 no walk from another vertex", () -> walks(1), x -> x.string(1), IAE);
        refused("P18 twelve", () -> filled(walks(1)), x -> x.string(0), ISE);
        refused("P18 twelve, no step", () -> filled(walks()), x -> x.string(0), ISE);
        for (int bad : NO_VERTEX) {
            refused("P18 no such vertex", () -> walks(), x -> x.string(bad), IOOBE);
            refused("P18 no such vertex ahead of twelve", () -> filled(walks(1)), x -> x.string(bad), IOOBE);
        }
    }

    private static void sum() {
        House house = () -> {
            Meshquiver x = Check.quiver(3, 0, 1);
            Check.module(x, 3, 2, 0);
            Check.module(x, 1, 2, 3);
            Check.module(x, 2, 0, 0);
            return typed(x, 1);
        };
        for (int bad : NO_MODULE_OF_3) {
            refused("P19 no such module", house, x -> x.sum(bad, 0), IOOBE);
            refused("P19 no such other one", house, x -> x.sum(0, bad), IOOBE);
        }
        for (int bad : NO_MODULE_OF_12) {
            refused("P19 no such module ahead of all", () -> filled(house.made()), x -> x.sum(bad, 0), IOOBE);
            refused("P19 no such other one ahead of all", () -> filled(house.made()), x -> x.sum(0, bad), IOOBE);
        }
        refused("P19 six at a vertex", house, x -> x.sum(0, 0), UOE);
        refused("P19 five at a vertex", house, x -> x.sum(0, 2), UOE);
        refused("P19 eleven together", house, x -> x.sum(0, 1), UOE);
        refused("P19 twelve together", house, x -> x.sum(1, 1), UOE);
        refused("P19 five at a vertex ahead of twelve", () -> filled(house.made()), x -> x.sum(2, 0), UOE);
        refused("P19 eleven together ahead of twelve", () -> filled(house.made()), x -> x.sum(1, 0), UOE);
        refused("P19 twelve", () -> filled(house.made()), x -> x.sum(2, 2), ISE);
        refused("P19 no module", RefusalTest::bareChain, x -> x.sum(0, 0), IOOBE);
    }

    private static void layersAndMeans() {
        for (int bad : NO_MODULE_OF_3) {
            refused("P24 no such module", RefusalTest::chain, x -> x.layers(bad), IOOBE);
        }
        House endless = () -> {
            Meshquiver x = ring();
            Check.fill(x, 0, 2, 1, 1);
            return x;
        };
        refused("P24 no end", endless, x -> x.layers(0), NSEE);
        refused("P24 no such module, another without end", endless, x -> x.layers(2), IOOBE);
        refused("P52 no numbers", RefusalTest::chain, x -> x.zeroShare(2), NONE);
        refused("P53 no modules", RefusalTest::bareChain, x -> x.meanDimension(), NONE);
        refused("P53 no modules any more", () -> {
            Meshquiver x = chain();
            x.clearModules();
            return x;
        }, x -> x.meanDimension(), NONE);
    }

    // ---- promises 26 to 36

    private static void alikeAndPieces() {
        for (int bad : NO_MODULE_OF_3) {
            refused("P26 no such module", RefusalTest::apart, x -> x.areAlike(bad, 0), IOOBE);
            refused("P26 no such other one", RefusalTest::apart, x -> x.areAlike(0, bad), IOOBE);
            refused("P27 no such module", RefusalTest::apart, x -> x.pieces(bad), IOOBE);
            refused("P28 no such module", RefusalTest::apart, x -> x.piece(bad, 0, 0), IOOBE);
            refused("P28 no such module ahead of the piece", RefusalTest::apart, x -> x.piece(bad, -1, 0), IOOBE);
        }
        for (int bad : NO_VERTEX) {
            refused("P28 no such vertex", RefusalTest::apart, x -> x.piece(2, 0, bad), IOOBE);
            refused("P28 no such vertex ahead of maps", RefusalTest::apart, x -> x.piece(0, 0, bad), IOOBE);
            refused("P28 no such vertex ahead of the piece", RefusalTest::apart, x -> x.piece(2, 3, bad), IOOBE);
            refused("P28 no such vertex ahead of all", RefusalTest::apart, x -> x.piece(0, -1, bad), IOOBE);
        }
        refused("P26 too many maps", RefusalTest::apart, x -> x.areAlike(0, 1), ISE);
        refused("P26 too many maps to itself", RefusalTest::apart, x -> x.areAlike(1, 1), ISE);
        refused("P27 too many maps", RefusalTest::apart, x -> x.pieces(0), ISE);
        refused("P28 too many maps", RefusalTest::apart, x -> x.piece(0, 0, 0), ISE);
        for (int bad : new int[] {-1, 3, 4, Integer.MAX_VALUE, Integer.MIN_VALUE}) {
            refused("P28 no such piece", RefusalTest::apart, x -> x.piece(2, bad, 0), NSEE);
            refused("P28 too many maps ahead of the piece", RefusalTest::apart, x -> x.piece(1, bad, 0), ISE);
        }
    }

    private static void syzygy() {
        for (int bad : NO_MODULE_OF_3) {
            refused("P29 no such module", RefusalTest::chain, x -> x.syzygy(bad, 0, 0), IOOBE);
            refused("P29 no such module ahead of times", RefusalTest::chain, x -> x.syzygy(bad, 7, 0), IOOBE);
        }
        for (int bad : NO_VERTEX) {
            refused("P29 no such vertex", RefusalTest::chain, x -> x.syzygy(0, 0, bad), IOOBE);
            refused("P29 no such vertex ahead of times", RefusalTest::chain, x -> x.syzygy(0, -1, bad), IOOBE);
            refused("P29 no such vertex ahead of relations", RefusalTest::broken, x -> x.syzygy(0, 9, bad), IOOBE);
        }
        for (int bad : new int[] {-1, 7, 8, Integer.MAX_VALUE, Integer.MIN_VALUE}) {
            refused("P29 times", RefusalTest::chain, x -> x.syzygy(0, bad, 0), IAE);
            refused("P29 times ahead of relations", RefusalTest::broken, x -> x.syzygy(0, bad, 0), IAE);
            refused("P29 times ahead of paths", RefusalTest::ring, x -> x.syzygy(0, bad, 0), IAE);
            refused("P29 times ahead of covers", RefusalTest::growing, x -> x.syzygy(0, bad, 0), IAE);
        }
        for (int times = 0; times <= 6; times++) {
            int t = times;
            refused("P29 relations do not hold", RefusalTest::broken, x -> x.syzygy(0, t, 0), UOE);
            refused("P29 not finite", RefusalTest::ring, x -> x.syzygy(0, t, 0), UOE);
        }
        refused("P29 a cover of 48", RefusalTest::growing, x -> x.syzygy(0, 5, 0), UOE);
        refused("P29 a cover of 48 on the way", RefusalTest::growing, x -> x.syzygy(0, 6, 0), UOE);
    }

    /** Two loops, all paths of two arrows zero: the covers have 3, 6, 12, 24, 48 dimensions. */
    private static Meshquiver growing() {
        Meshquiver x = Check.quiver(1, 0, 0, 0, 0);
        for (int i = 0; i < 4; i++) {
            Check.type(x, i / 2, i % 2);
            x.zero();
        }
        x.simple(0);
        return typed(x, 3, 3);
    }

    /** A vertex with 10 paths from it, 4 times: module 0 has just 40, module 1 has 41. */
    private static Meshquiver covered() {
        Meshquiver x = Check.quiver(5, 0, 1, 0, 1, 1, 2, 0, 3, 0, 3, 3, 4, 0, 4);
        Check.module(x, 4, 0, 0, 0, 0);
        Check.module(x, 4, 0, 0, 0, 1);
        x.simple(0);
        return typed(x, 1);
    }

    private static void extensionsAndResolution() {
        for (int bad : NO_MODULE_OF_3) {
            refused("P30 no such module", RefusalTest::chain, x -> x.extensions(bad, 0), IOOBE);
            refused("P30 no such other one", RefusalTest::chain, x -> x.extensions(0, bad), IOOBE);
            refused("P31 no such module", RefusalTest::chain, x -> x.resolution(bad), IOOBE);
            refused("P30 no such module ahead of covers", RefusalTest::covered, x -> x.extensions(1, bad), IOOBE);
        }
        refused("P30 no such other one ahead of relations", RefusalTest::broken, x -> x.extensions(0, 2), IOOBE);
        refused("P30 no such module ahead of paths", RefusalTest::ring, x -> x.extensions(2, 0), IOOBE);
        refused("P31 no such module ahead of paths", RefusalTest::ring, x -> x.resolution(2), IOOBE);
        refused("P30 relations do not hold in the first", RefusalTest::broken, x -> x.extensions(0, 1), UOE);
        refused("P30 relations do not hold in the other", RefusalTest::broken, x -> x.extensions(1, 0), UOE);
        refused("P30 relations do not hold in either", RefusalTest::broken, x -> x.extensions(0, 0), UOE);
        refused("P30 not finite", RefusalTest::ring, x -> x.extensions(0, 1), UOE);
        refused("P30 a cover of 41", RefusalTest::covered, x -> x.extensions(1, 0), UOE);
        refused("P31 relations do not hold", RefusalTest::broken, x -> x.resolution(0), UOE);
        refused("P31 not finite", RefusalTest::ring, x -> x.resolution(0), UOE);
        refused("P31 a cover of 41", RefusalTest::covered, x -> x.resolution(1), UOE);
        // It is longer than 6 too, whatever is met: the cover is listed first.
        refused("P31 a cover of 48 ahead of no end", RefusalTest::growing, x -> x.resolution(0), UOE);
        refused("P31 longer than 6", RefusalTest::broken, x -> x.resolution(1), NSEE);
    }

    private static void submodules() {
        for (int bad : NO_MODULE_OF_3) {
            refused("P32 no such module", RefusalTest::wide, x -> x.submodules(bad), IOOBE);
            refused("P32 no such module ahead of the row", () -> typed(wide(), 1), x -> x.submodules(bad), IOOBE);
        }
        int[][] rows = {{}, {1}, {1, 2}, {1, 2, 1, 0}, {1, 2, 1, 1, 1, 1, 1, 1}};
        for (int[] row : rows) {
            refused("P32 not as many as vertices", () -> typed(wide(), row), x -> x.submodules(2), IAE);
            refused("P32 not as many ahead of ways", () -> typed(wide(), row), x -> x.submodules(0), IAE);
        }
        refused("P32 20800 ways", RefusalTest::wide, x -> x.submodules(0), ISE);
    }

    private static void weight() {
        for (int bad : NO_VERTEX) {
            refused("P33 no such vertex", RefusalTest::chain, x -> x.weight(bad, 1), IOOBE);
            refused("P33 no such vertex ahead of the weight", RefusalTest::chain, x -> x.weight(bad, 10), IOOBE);
        }
        for (int bad : new int[] {10, -10, 99, Integer.MAX_VALUE, Integer.MIN_VALUE}) {
            refused("P33 out of range", RefusalTest::chain, x -> x.weight(0, bad), IAE);
        }
        refused("P33 without vertices", Meshquiver::new, x -> x.weight(0, 0), IOOBE);
    }

    private static void slopes() {
        House zero = () -> {
            Meshquiver x = wide();
            Check.module(x, 0, 0, 0);
            return typed(x, 2, 2);
        };
        for (int bad : NO_MODULE_OF_3) {
            refused("P34 no such module", RefusalTest::wide, x -> x.stability(bad), IOOBE);
            refused("P35 no such module", RefusalTest::wide, x -> x.filtration(bad, 0, 0), IOOBE);
            refused("P35 no such module ahead of the step", RefusalTest::wide, x -> x.filtration(bad, 9, 0), IOOBE);
        }
        for (int bad : NO_VERTEX) {
            refused("P35 no such vertex", RefusalTest::wide, x -> x.filtration(2, 0, bad), IOOBE);
            refused("P35 no such vertex ahead of ways", RefusalTest::wide, x -> x.filtration(0, 0, bad), IOOBE);
            refused("P35 no such vertex ahead of the step", RefusalTest::wide, x -> x.filtration(2, -1, bad), IOOBE);
        }
        refused("P34 of 0", zero, x -> x.stability(3), NSEE);
        refused("P34 too many ways", RefusalTest::wide, x -> x.stability(0), ISE);
        refused("P34 21952 ways", RefusalTest::wide, x -> x.stability(1), ISE);
        refused("P35 too many ways", RefusalTest::wide, x -> x.filtration(0, 0, 0), ISE);
        refused("P35 21952 ways", RefusalTest::wide, x -> x.filtration(1, 0, 0), ISE);
        refused("P35 no step of 0", zero, x -> x.filtration(3, 0, 0), NSEE);
        // With the weights 0, 4 and 0, and an arrow that is 0, the steps of 1, 1, 1 are 010 and 101.
        for (int bad : new int[] {-1, 2, 3, Integer.MAX_VALUE, Integer.MIN_VALUE}) {
            refused("P35 no such step", RefusalTest::wide, x -> x.filtration(2, bad, 0), NSEE);
            refused("P35 too many ways ahead of the step", RefusalTest::wide, x -> x.filtration(0, bad, 0), ISE);
        }
    }

    private static void bars() {
        House line = () -> {
            Meshquiver x = Check.quiver(3, 0, 1, 1, 2);
            Check.module(x, 4, 0, 0);
            Check.module(x, 1, 1, 0);
            x.pieces(1);
            return typed(x, 1);
        };
        for (int bad : new int[] {-1, 2, 12, Integer.MAX_VALUE, Integer.MIN_VALUE}) {
            refused("P36 no such module", line, x -> x.bars(bad, 0, 0), IOOBE);
        }
        for (int bad : NO_VERTEX) {
            refused("P36 no such first vertex", line, x -> x.bars(1, bad, 2), IOOBE);
            refused("P36 no such last one", line, x -> x.bars(1, 0, bad), IOOBE);
            refused("P36 no such vertex ahead of maps", line, x -> x.bars(0, 0, bad), IOOBE);
            refused("P36 no such vertex ahead of the row", RefusalTest::wide, x -> x.bars(0, 0, bad), IOOBE);
        }
        refused("P36 the wrong way round", line, x -> x.bars(1, 1, 0), IOOBE);
        refused("P36 the wrong way round", line, x -> x.bars(1, 2, 1), IOOBE);
        refused("P36 the wrong way round ahead of maps", line, x -> x.bars(0, 2, 0), IOOBE);
        refused("P36 the wrong way round ahead of the row", RefusalTest::wide, x -> x.bars(0, 1, 0), IOOBE);
        refused("P36 too many maps", line, x -> x.bars(0, 0, 0), ISE);
        refused("P36 no row", RefusalTest::wide, x -> x.bars(2, 0, 0), UOE);
        refused("P36 no row ahead of maps", RefusalTest::apart, x -> x.bars(0, 0, 0), UOE);
        refused("P36 no such module, and no row", RefusalTest::apart, x -> x.bars(3, 0, 0), IOOBE);
    }

    // ---- promises 37 to 50

    private static void kindAndForm() {
        refused("P37 no vertex", () -> typed(new Meshquiver(), 1), x -> x.kind(), UOE);
        refused("P37 not connected", RefusalTest::apart, x -> x.kind(), UOE);
        refused("P37 zero paths", RefusalTest::fullQuiver, x -> x.kind(), UOE);
        refused("P37 cycles", RefusalTest::ring, x -> x.kind(), UOE);
        for (int vertices = 0; vertices <= 5; vertices++) {
            int n = vertices;
            int due = n == 5 ? 5 : 2 * n;
            for (int count = 0; count <= 8; count++) {
                int[] row = new int[count];
                for (int i = 0; i < count; i++) {
                    row[i] = i - 3;
                }
                if (count != due) {
                    refused("P38 not as many", () -> typed(Check.quiver(n), row), x -> x.form(), IAE);
                }
            }
        }
    }

    private static void rootsOfOtherKinds() {
        House[] others = {Meshquiver::new, RefusalTest::apart, RefusalTest::fullQuiver, RefusalTest::ring,
            () -> typed(Check.quiver(2, 0, 1, 0, 1), 1, 1), () -> typed(Check.quiver(2, 0, 1, 0, 1, 0, 1), 1, 1)};
        for (House house : others) {
            refused("P39 not of kind f", house, x -> x.roots(), UOE);
            for (int index : new int[] {0, -1, 99}) {
                refused("P40 not of kind f", house, x -> x.root(index, 0), UOE);
                refused("P40 not of kind f ahead of the vertex", house, x -> x.root(index, -1), UOE);
                refused("P41 not of kind f", house, x -> x.orbit(index), UOE);
                refused("P42 not of kind f", house, x -> x.translate(index), UOE);
                refused("P43 not of kind f", house, x -> x.between(index, 0, true), UOE);
                refused("P43 not of kind f", house, x -> x.between(0, index, false), UOE);
                refused("P44 not of kind f", house, x -> x.mesh(index, 0), UOE);
                refused("P44 not of kind f", house, x -> x.mesh(0, index), UOE);
                refused("P46 not of kind f", house, x -> x.isTilting(index), UOE);
                refused("P47 not of kind f", house, x -> x.mutate(3, index), UOE);
                refused("P47 not of kind f, no tilting set", house, x -> x.mutate(index, 0), UOE);
            }
            refused("P45 not of kind f", house, x -> x.tilting(), UOE);
        }
    }

    /** The chain has six roots. */
    private static void rootsBeyond() {
        for (int bad : new int[] {-1, 6, 31, 32, Integer.MAX_VALUE, Integer.MIN_VALUE}) {
            refused("P40 no such root", RefusalTest::chain, x -> x.root(bad, 0), NSEE);
            refused("P40 no such root ahead of the vertex", RefusalTest::chain, x -> x.root(bad, 3), NSEE);
            refused("P41 no such root", RefusalTest::chain, x -> x.orbit(bad), NSEE);
            refused("P42 no such root", RefusalTest::chain, x -> x.translate(bad), NSEE);
            refused("P43 no such root", RefusalTest::chain, x -> x.between(bad, 0, true), NSEE);
            refused("P43 no such other one", RefusalTest::chain, x -> x.between(0, bad, false), NSEE);
            refused("P44 no such root", RefusalTest::chain, x -> x.mesh(bad, 0), NSEE);
            refused("P44 no such other one", RefusalTest::chain, x -> x.mesh(0, bad), NSEE);
        }
        for (int bad : NO_VERTEX) {
            refused("P40 no such vertex", RefusalTest::chain, x -> x.root(0, bad), IOOBE);
        }
    }

    /** The projective roots of the chain are 0, 3 and 5, of which 5 is in each tilting set. */
    private static void mutate() {
        int set = 1 << 0 | 1 << 3 | 1 << 5;
        int[] noSets = {0, 1, 7, 1 << 0 | 1 << 3, set | 1 << 1, set | 1 << 6, set | 1 << 31, -1, 1 << 0 | 1 << 3 | 1 << 6,
            Integer.MIN_VALUE, Integer.MAX_VALUE};
        for (int bad : noSets) {
            for (int index : new int[] {0, 3, 5, 6, -1}) {
                refused("P47 not tilting", RefusalTest::chain, x -> x.mutate(bad, index), IAE);
            }
        }
        for (int bad : new int[] {1, 2, 4, 6, -1, 31, 32, 35, 37, 64, -27, -32, Integer.MAX_VALUE, Integer.MIN_VALUE}) {
            refused("P47 has not this root", RefusalTest::chain, x -> x.mutate(set, bad), IAE);
        }
        refused("P47 no other root", RefusalTest::chain, x -> x.mutate(set, 5), NSEE);
    }

    private static void clusters() {
        House looped = () -> typed(Check.quiver(3, 0, 1, 2, 2), 1);
        House either = () -> typed(Check.quiver(3, 0, 1, 1, 2, 2, 1), 1);
        for (int bad : NO_VERTEX) {
            refused("P48 no such vertex", RefusalTest::chain, x -> x.turn(bad), IOOBE);
            refused("P48 no such vertex ahead of a loop", looped, x -> x.turn(bad), IOOBE);
            refused("P48 no such vertex ahead of arrows either way", either, x -> x.turn(bad), IOOBE);
            refused("P49 no such vertex", RefusalTest::chain, x -> x.turned(bad, 0), IOOBE);
            refused("P49 no such other one", RefusalTest::chain, x -> x.turned(0, bad), IOOBE);
            refused("P49 no such vertex ahead of a loop", looped, x -> x.turned(bad, 0), IOOBE);
            refused("P49 no such other one ahead of a loop", looped, x -> x.turned(0, bad), IOOBE);
            refused("P50 no such vertex", RefusalTest::chain, x -> x.frieze(bad), IOOBE);
        }
        for (int v = 0; v < 3; v++) {
            int vertex = v;
            refused("P48 a loop", looped, x -> x.turn(vertex), UOE);
            refused("P48 arrows either way", either, x -> x.turn(vertex), UOE);
            refused("P49 a loop", looped, x -> x.turned(0, vertex), UOE);
            refused("P49 arrows either way", either, x -> x.turned(vertex, 0), UOE);
        }
        // The least frieze number beyond 1000000 that any quiver can come to: 1000005.
        refused("P48 1000005", () -> turnedHouse(new int[] {1, 3, 2, 4, 1, 0}), x -> x.turn(3), UOE);
        refused("P50 without vertices", Meshquiver::new, x -> x.frieze(0), IOOBE);
        refused("P48 without vertices", Meshquiver::new, x -> x.turn(0), IOOBE);
        refused("P49 without vertices", Meshquiver::new, x -> x.turned(0, 0), IOOBE);
    }

    private static Meshquiver turnedHouse(int[] turns) {
        Meshquiver x = Check.quiver(5, 0, 1, 0, 1, 1, 2, 1, 4, 3, 2, 3, 4, 4, 0);
        for (int v : turns) {
            x.turn(v);
        }
        return typed(x, 1, 2);
    }
}
