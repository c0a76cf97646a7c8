/** The paragraphs of 'Terms', one after the other: each sentence that names a boundary, on either side. */
public final class TermsTest {
    private static final String IAE = "throws.IllegalArgumentException";
    private static final String ISE = "throws.IllegalStateException";
    private static final String IOOBE = "throws.IndexOutOfBoundsException";
    private static final String NSEE = "throws.NoSuchElementException";
    private static final String UOE = "throws.UnsupportedOperationException";

    public static void main(String[] args) {
        verticesAndArrows();
        emptyPaths();
        lengthsOfZeroPaths();
        toldAgain();
        zeroWithin();
        zeroArrowByArrow();
        sixtyPaths();
        emptyPathsCount();
        rowOfEight();
        rowIsEmptyBehind();
        rowStaysBehindAllOthers();
        fields();
        twelveModules();
        dimensions();
        shapesOfMatrices();
        numbersModuloPrime();
        relations();
        relationsOfEachVector();
        nothingIsAdded();
        simpleOnes();
        orderOfPaths();
        orderWithZeroPaths();
        walks();
        walksOnZeroPaths();
        sums();
        parts();
        layers();
        maps();
        alike();
        splits();
        orderOfPieces();
        syzygies();
        coversOnTheWay();
        extensions();
        resolutions();
        forms();
        kinds();
        roots();
        orbits();
        translates();
        betweenRoots();
        tiltingSets();
        mutations();
        clusters();
        friezes();
        submodules();
        slopes();
        filtrations();
        bars();
        Check.finish();
    }

    private static Meshquiver told(Meshquiver x, int[]... zeros) {
        for (int[] zero : zeros) {
            Check.type(x, zero);
            x.zero();
        }
        return x;
    }

    private static int[] row(int... numbers) {
        return numbers;
    }

    // ---- quiver

    private static void verticesAndArrows() {
        Meshquiver x = new Meshquiver();
        for (int i = 0; i < 5; i++) {
            int v = i;
            Check.due("at most 5 vertices, numbered from 0", () -> x.vertex(), v);
            Check.due("the next one is not there", () -> x.frieze(v + 1), IOOBE);
        }
        Check.due("not 6 vertices", () -> x.vertex(), ISE);
        Check.due("the sixth is not there", () -> x.frieze(5), IOOBE);
        int[][] ends = {{0, 0}, {0, 0}, {4, 4}, {0, 4}, {4, 0}, {0, 4}, {3, 1}};
        for (int i = 0; i < 7; i++) {
            int a = i;
            Check.due("at most 7 arrows, each from a vertex to a vertex", () -> x.arrow(ends[a][0], ends[a][1]), a);
        }
        Check.due("not 8 arrows", () -> x.arrow(0, 1), ISE);
        Check.due("not 8 arrows, nor a loop", () -> x.arrow(0, 0), ISE);
        Meshquiver one = Check.quiver(1);
        for (int i = 0; i < 7; i++) {
            int a = i;
            Check.due("seven loops at a vertex", () -> one.arrow(0, 0), a);
        }
        Check.due("not eight", () -> one.arrow(0, 0), ISE);
    }

    private static void emptyPaths() {
        Meshquiver x = Check.quiver(5);
        for (int i = 0; i < 25; i++) {
            int v = i / 5;
            int w = i % 5;
            Check.due("there is an empty path at each vertex", () -> x.paths(v, w), v == w ? 1 : 0);
        }
        Check.due("five paths are finite", () -> x.isFinite(), true);
        Meshquiver y = Check.quiver(2, 0, 1, 1, 0);
        told(y, row(0, 1), row(1, 0));
        Check.due("the empty one alone goes back", () -> y.paths(0, 0), 1);
        Check.due("the arrow alone goes on", () -> y.paths(0, 1), 1);
    }

    private static void lengthsOfZeroPaths() {
        for (int length = 0; length <= 8; length++) {
            Meshquiver x = Check.quiver(1, 0, 0);
            for (int i = 0; i < length; i++) {
                x.type(0);
            }
            boolean isIn = length >= 2 && length <= 4;
            Check.due("paths of 2 to 4 arrows, here " + length, () -> x.zero(), isIn ? 1 : IAE);
            Check.due("which ends the loop", () -> x.isFinite(), isIn);
            Check.due("behind as many paths", () -> x.paths(0, 0), isIn ? length : UOE);
        }
    }

    private static void toldAgain() {
        Meshquiver x = Check.quiver(3, 0, 1, 1, 2, 2, 0);
        for (int i = 1; i <= 5; i++) {
            int count = i;
            Check.type(x, 0, 1);
            Check.due("one that was told already counts again", () -> x.zero(), count);
        }
        Check.type(x, 0, 1);
        Check.due("not told six times", () -> x.zero(), ISE);
        Check.type(x, 1, 2);
        Check.due("nor another one", () -> x.zero(), ISE);
        Check.due("which is not zero, so that 1 2 0 are left", () -> x.paths(1, 1), 2);
        Check.due("as it is told once", () -> x.paths(0, 2), 0);
        Meshquiver y = Check.quiver(3, 0, 1, 1, 2, 2, 0);
        int[][] five = {{0, 1}, {1, 2}, {2, 0}, {0, 1, 2}, {0, 1, 2, 0}};
        for (int i = 0; i < 5; i++) {
            int count = i + 1;
            Check.type(y, five[i]);
            Check.due("five unlike ones, some within others", () -> y.zero(), count);
        }
        Check.type(y, 2, 0, 1);
        Check.due("not six unlike ones", () -> y.zero(), ISE);
    }

    private static void zeroWithin() {
        int[][] zeros = {{1, 2}, {0, 1}, {2, 3}, {0, 1, 2}, {1, 2, 3}, {0, 1, 2, 3}};
        for (int[] zero : zeros) {
            Meshquiver x = told(Check.quiver(5, 0, 1, 1, 2, 2, 3, 3, 4), zero);
            for (int i = 0; i < 25; i++) {
                int v = i / 5;
                int w = i % 5;
                // The path from v to w has the zero one within, at its beginning, its end or between.
                boolean isZero = v <= zero[0] && w > zero[zero.length - 1];
                Check.due("zero if it has one of these within", () -> x.paths(v, w), v <= w && !isZero ? 1 : 0);
            }
        }
    }

    private static void zeroArrowByArrow() {
        Meshquiver x = told(Check.quiver(3, 0, 1, 0, 1, 1, 2, 1, 2), row(0, 2));
        Check.due("the other arrows' paths are not zero", () -> x.paths(0, 2), 3);
        told(x, row(1, 3));
        Check.due("nor are the two that are left", () -> x.paths(0, 2), 2);
        // Words of two letters without 00, 11 and 0101: a 0 and a 0 with a letter between are not 00.
        Meshquiver y = told(Check.quiver(1, 0, 0, 0, 0), row(0, 0), row(1, 1), row(0, 1, 0, 1));
        Check.due("one by one, without a gap", () -> y.paths(0, 0), 8);
        // Without 01 all words are 1s ahead of 0s; here at most two of either.
        Meshquiver z = told(Check.quiver(1, 0, 0, 0, 0), row(0, 1), row(0, 0, 0), row(1, 1, 1));
        Check.due("in their order", () -> z.paths(0, 0), 9);
    }

    /** 28 words of two loops at 0, and an arrow from 1 ahead of them or not: 56 and an empty one. */
    private static Meshquiver fiftySeven(int vertices) {
        Meshquiver x = Check.quiver(vertices, 0, 0, 0, 0, 1, 0);
        return told(x, row(0, 0, 0, 0), row(0, 1, 0), row(1, 1, 0), row(1, 1, 1, 0), row(1, 1, 1, 1));
    }

    private static void sixtyPaths() {
        Meshquiver x = fiftySeven(4);
        Check.due("59 paths", () -> x.isFinite(), true);
        x.arrow(2, 3);
        Check.due("60 paths", () -> x.isFinite(), true);
        Check.due("60 paths are counted", () -> x.paths(1, 0), 28);
        x.arrow(2, 3);
        Check.due("61 paths", () -> x.isFinite(), false);
        Check.due("61 paths are not counted", () -> x.paths(1, 0), UOE);
        Check.due("61 paths, from none of which this is", () -> x.paths(3, 3), UOE);
        Meshquiver far = fiftySeven(5);
        far.arrow(2, 2);
        Check.due("no end of paths, far from the others", () -> far.isFinite(), false);
    }

    private static void emptyPathsCount() {
        Meshquiver x = fiftySeven(3);
        Check.due("58 with the empty ones", () -> x.isFinite(), true);
        x.vertex();
        x.arrow(2, 3);
        Check.due("60 with the empty ones", () -> x.isFinite(), true);
        x.vertex();
        Check.due("an empty one more is one too many", () -> x.isFinite(), false);
        Meshquiver none = new Meshquiver();
        Check.due("no path at all", () -> none.isFinite(), true);
    }

    // ---- the row that is typed

    private static void rowOfEight() {
        Meshquiver x = new Meshquiver();
        int[] numbers = {-9, 9, -8, 8, 0, 1, -1, 5};
        for (int i = 0; i < 8; i++) {
            int count = i + 1;
            Check.due("at most 8 numbers, from -9 to 9", () -> x.type(numbers[count - 1]), count);
        }
        Check.due("not 9 numbers", () -> x.type(0), ISE);
        Check.due("not -10", () -> x.type(-10), IAE);
        Check.due("not 10", () -> x.type(10), IAE);
        Check.due("all 8 were kept", () -> x.clearRow(), 8);
        Check.due("empty behind clearRow()", () -> x.clearRow(), 0);
        Check.due("and typed from the first one on", () -> x.type(-9), 1);
    }

    private static Meshquiver typed(Meshquiver x, int... numbers) {
        Check.type(x, numbers);
        return x;
    }

    private static void rowIsEmptyBehind() {
        Meshquiver x = Check.quiver(2, 0, 1, 1, 1);
        Check.due("zero()", () -> typed(x, 1, 1).zero(), 1);
        Check.due("is empty behind zero()", () -> x.clearRow(), 0);
        Check.due("module()", () -> typed(x, 1, 2).module(), 0);
        Check.due("is empty behind module()", () -> x.clearRow(), 0);
        Check.due("string()", () -> typed(x, 1).string(0), 1);
        Check.due("is empty behind string()", () -> x.clearRow(), 0);
        Check.due("submodules()", () -> typed(x, 1, 1).submodules(0), 3);
        Check.due("is empty behind submodules()", () -> x.clearRow(), 0);
        Check.due("submodules(), a dimension cannot be", () -> typed(x, 1, 3).submodules(0), 0);
        Check.due("is empty behind submodules()", () -> x.clearRow(), 0);
        Check.due("form()", () -> typed(x, 1, 0, 0, 1).form(), -1);
        Check.due("is empty behind form()", () -> x.clearRow(), 0);
        Check.due("zero() that throws", () -> typed(x, 1, 0).zero(), IAE);
        Check.due("is not empty behind zero() that throws", () -> x.clearRow(), 2);
        Check.due("module() that throws", () -> typed(x, 1, 2, 3).module(), IAE);
        Check.due("is not empty behind module() that throws", () -> x.clearRow(), 3);
        Check.due("string() that throws", () -> typed(x, -1).string(0), IAE);
        Check.due("is not empty behind string() that throws", () -> x.clearRow(), 1);
        Check.due("submodules() that throws", () -> typed(x, 1).submodules(0), IAE);
        Check.due("is not empty behind submodules() that throws", () -> x.clearRow(), 1);
        Check.due("form() that throws", () -> typed(x, 1, 2, 3).form(), IAE);
        Check.due("is not empty behind form() that throws", () -> x.clearRow(), 3);
        Check.due("the numbers are the same still", () -> {
            typed(x, 1, 2, 3);
            Check.told(() -> x.form());
            Check.told(() -> x.module());
            Check.told(() -> x.submodules(0));
            Check.told(() -> x.string(0));
            Check.told(() -> x.zero());
            x.type(4);
            return x.form();
        }, 1 * 3 + 2 * 4 - 1 * 4 - 2 * 4);
    }

    /** Every call that may not empty the row, each of which must answer here. */
    private static void rowStaysBehindAllOthers() {
        Meshquiver x = typed(new Meshquiver(), 1, 1, 0);
        Object[] toBuild = {x.vertex(), x.vertex(), x.arrow(0, 1), x.field(3), x.isFinite(), x.paths(0, 1),
            x.turn(0), x.turned(0, 1), x.frieze(0), x.weight(0, 1), x.clearModules(), x.isConsistent()};
        Check.due("stays behind what builds a quiver", () -> toBuild.length + x.clearRow(), 15);
        typed(x, 1, 1, 0);
        Object[] toFill = {x.simple(0), x.projective(0), x.injective(0), x.sum(0, 1), x.entry(1, 0, 0, 0, 2)};
        Check.due("stays behind what adds modules", () -> toFill.length + x.clearRow(), 8);
        typed(x, 1, 1, 0);
        Object[] toAsk = {x.entryAt(1, 0, 0, 0), x.holds(0), x.dimension(0, 0), x.rank(1, 0), x.top(1, 0),
            x.socle(1, 0), x.layers(1), x.maps(0, 1), x.areAlike(0, 2), x.pieces(3), x.piece(3, 0, 0),
            x.syzygy(0, 1, 0), x.extensions(0, 1), x.resolution(0), x.weight(1, 2), x.stability(3),
            x.filtration(3, 0, 0), x.bars(3, 0, 1), x.checksum(0), x.zeroShare(1), x.meanDimension()};
        Check.due("stays behind what asks of modules", () -> toAsk.length + x.clearRow(), 24);
        typed(x, 1, 1, 0);
        Object[] toRoots = {x.kind(), x.roots(), x.root(0, 0), x.orbit(0), x.translate(0),
            x.between(0, 1, true), x.mesh(0, 1), x.tilting(), x.isTilting(5), x.mutate(5, 0), x.isConsistent()};
        Check.due("stays behind what asks of roots", () -> toRoots.length + x.clearRow(), 14);
        typed(x, 1, 1, 0);
        Check.due("clearModules()", () -> x.clearModules(), 4);
        Check.due("stays behind clearModules()", () -> x.clearRow(), 3);
    }

    // ---- field and modules

    private static void fields() {
        Meshquiver x = new Meshquiver();
        Check.due("2 at first", () -> x.field(2), 2);
        for (int prime = -10; prime <= 30; prime++) {
            int p = prime;
            Meshquiver y = Check.quiver(1);
            boolean isIn = p == 2 || p == 3 || p == 5;
            Check.due("2, 3 or 5, here " + p, () -> y.field(p), isIn ? 2 : IAE);
            Check.due("the one told is kept", () -> y.field(3), isIn ? p : 2);
        }
    }

    private static void twelveModules() {
        for (int style = 0; style < 6; style++) {
            int adding = style;
            Meshquiver x = Check.quiver(2, 0, 1);
            x.simple(0);
            for (int i = 1; i < 12; i++) {
                int number = i;
                Check.due("numbered from 0, at most 12", () -> add(x, adding), number);
            }
            Check.due("not 13", () -> add(x, adding), ISE);
            Check.due("the twelfth is there", () -> x.dimension(11, 0) + x.dimension(11, 1) > 0, true);
            Check.due("the thirteenth is not", () -> x.dimension(12, 0), IOOBE);
            Check.due("twelve are taken away", () -> x.clearModules(), 12);
            Check.due("and the first is added again", () -> x.simple(1), 0);
        }
    }

    private static int add(Meshquiver x, int style) {
        switch (style) {
            case 0:
                return Check.module(x, 1, 1);
            case 1:
                return x.simple(1);
            case 2:
                return x.projective(0);
            case 3:
                return x.injective(1);
            case 4:
                return typed(x, 1).string(0);
            default:
                return x.sum(0, 0);
        }
    }

    private static void dimensions() {
        for (int d = -1; d <= 6; d++) {
            int dimension = d;
            Meshquiver x = Check.quiver(3);
            boolean isIn = d >= 0 && d <= 4;
            for (int v = 0; v < 3; v++) {
                int vertex = v;
                Check.due("a dimension, 0 to 4, here " + d,
                        () -> Check.module(x, vertex == 0 ? dimension : 1, vertex == 1 ? dimension : 1,
                                vertex == 2 ? dimension : 1), isIn ? v : IAE);
            }
        }
        int[][] ten = {{4, 4, 2, 0, 0}, {2, 2, 2, 2, 2}, {0, 0, 4, 3, 3}, {4, 1, 1, 0, 4}};
        Meshquiver x = Check.quiver(5);
        for (int[] dims : ten) {
            Check.type(x, dims);
            Check.due("10 at most together", () -> x.module() >= 0, true);
            dims[1]++;
            Check.type(x, dims);
            Check.due("not 11 together", () -> x.module(), IAE);
        }
        Check.due("the module that is 0", () -> Check.module(x, 0, 0, 0, 0, 0), 4);
        Meshquiver none = new Meshquiver();
        Check.due("without vertices a module has no dimensions", () -> none.module(), 0);
        Check.due("of which there are none", () -> none.dimension(0, 0), IOOBE);
    }

    private static void shapesOfMatrices() {
        Meshquiver x = Check.quiver(3, 0, 1, 1, 0, 1, 1, 2, 1);
        Check.module(x, 2, 3, 0);
        int[][] shapes = {{3, 2}, {2, 3}, {3, 3}, {3, 0}};
        for (int i = 0; i < 4; i++) {
            int a = i;
            for (int j = 0; j < 16; j++) {
                int row = j / 4;
                int column = j % 4;
                boolean isIn = row < shapes[a][0] && column < shapes[a][1];
                Check.due("rows as where it ends, columns as where it begins", () -> x.entry(0, a, row, column, 1),
                        isIn ? 0 : IOOBE);
                Check.due("and so it is read", () -> x.entryAt(0, a, row, column), isIn ? 1 : IOOBE);
            }
        }
    }

    private static void numbersModuloPrime() {
        for (int prime : new int[] {2, 3, 5}) {
            Meshquiver x = Check.quiver(1, 0, 0);
            x.field(prime);
            x.simple(0);
            int before = 0;
            for (int i = -9; i <= 9; i++) {
                int value = i;
                int due = before;
                Check.due("the number before", () -> x.entry(0, 0, 0, 0, value), due);
                before = Math.floorMod(i, prime);
                Check.due(i + " modulo " + prime, () -> x.entryAt(0, 0, 0, 0), before);
            }
            int last = before;
            Check.due("not 10", () -> x.entry(0, 0, 0, 0, 10), IAE);
            Check.due("not -10", () -> x.entry(0, 0, 0, 0, -10), IAE);
            Check.due("which changes nothing", () -> x.entryAt(0, 0, 0, 0), last);
        }
    }

    /** Of two loops one takes the second basis vector to the first one, the other one keeps it. */
    private static void relations() {
        int[][] told = {{0, 1}, {1, 0}};
        for (int[] zero : told) {
            Meshquiver x = told(Check.quiver(1, 0, 0, 0, 0), zero);
            Check.module(x, 2);
            Check.due("holds in zeros", () -> x.holds(0), true);
            x.entry(0, 0, 0, 1, 1);
            Check.due("holds with one arrow alone", () -> x.holds(0), true);
            x.entry(0, 1, 1, 1, 1);
            // Arrow 0 answers the first basis vector, which arrow 1 takes to 0; the other way round not.
            Check.due("the first arrow's matrix first", () -> x.holds(0), zero[0] == 0);
        }
        Meshquiver x = told(Check.quiver(5, 0, 1, 1, 2, 2, 3, 3, 4), row(0, 1, 2, 3));
        Check.module(x, 1, 1, 1, 1, 1);
        for (int a = 0; a < 4; a++) {
            Check.due("four arrows, one of them 0", () -> x.holds(0), true);
            x.entry(0, a, 0, 0, 1);
        }
        Check.due("four arrows, none 0", () -> x.holds(0), false);
        Meshquiver five = told(Check.quiver(1, 0, 0), row(0, 0, 0, 0));
        five.field(5);
        Check.module(five, 2);
        Check.fill(five, 0, 0, 2, 2, 1, 1, 3);
        // Its square is 5 times itself, which is 0.
        Check.due("sums are taken modulo p", () -> five.holds(0), true);
        five.entry(0, 0, 0, 0, 1);
        Check.due("else it would not hold", () -> five.holds(0), false);
        Meshquiver last = told(Check.quiver(3, 0, 1, 1, 2), row(0, 1), row(0, 1), row(0, 1), row(0, 1), row(0, 1));
        Check.module(last, 1, 1, 1);
        Check.fill(last, 0, 0, 1, 1);
        Check.fill(last, 0, 1, 1, 1);
        Check.due("told five times", () -> last.holds(0), false);
        Meshquiver fifth = told(Check.quiver(5, 0, 1, 1, 2, 2, 3, 3, 4, 3, 4, 3, 4), row(0, 1), row(1, 2),
                row(2, 3), row(2, 4), row(2, 5));
        Check.module(fifth, 0, 0, 1, 1, 1);
        fifth.entry(0, 2, 0, 0, 1);
        fifth.entry(0, 5, 0, 0, 1);
        Check.due("the fifth alone", () -> fifth.holds(0), false);
        Check.due("all of a module that is 0", () -> fifth.holds(Check.module(fifth, 0, 0, 0, 0, 0)), true);
    }

    /** What a path takes to 0 is looked at vector by vector, each from where the path begins. */
    private static void relationsOfEachVector() {
        for (int column = 0; column < 4; column++) {
            Meshquiver x = told(Check.quiver(3, 0, 1, 1, 2), row(0, 1));
            Check.module(x, 4, 1, 1);
            x.entry(0, 0, 0, column, 1);
            x.entry(0, 1, 0, 0, 1);
            Check.due("one vector is not taken to 0", () -> x.holds(0), false);
        }
        Meshquiver x = told(Check.quiver(3, 0, 1, 1, 2), row(0, 1));
        Check.module(x, 2, 1, 1);
        Check.fill(x, 0, 0, 2, 1, 1);
        x.entry(0, 1, 0, 0, 1);
        Check.due("two that are taken to the same", () -> x.holds(0), false);
        Check.module(x, 2, 2, 2);
        Check.fill(x, 1, 0, 2, 1, 1, 1, 1);
        Check.fill(x, 1, 1, 2, 1, 1, 0, 0);
        Check.due("1 plus 1 modulo 2", () -> x.holds(1), true);
        Check.fill(x, 1, 1, 2, 1, 0, 0, 0);
        Check.due("1 alone modulo 2", () -> x.holds(1), false);
        Check.module(x, 1, 3, 0);
        Check.fill(x, 2, 0, 1, 1, 1, 1);
        Check.due("no dimension where it ends", () -> x.holds(2), true);
    }

    private static void nothingIsAdded() {
        Meshquiver x = Check.quiver(3, 0, 1, 1, 2);
        Check.module(x, 0, 0, 0);
        Check.due("no vertex while there are modules", () -> x.vertex(), UOE);
        Check.due("no arrow", () -> x.arrow(0, 1), UOE);
        Check.due("no zero path", () -> typed(x, 0, 1).zero(), UOE);
        Check.due("no field", () -> x.field(3), UOE);
        Check.due("not even the same one", () -> x.field(2), UOE);
        x.clearModules();
        Check.due("a field when there are none", () -> x.field(3), 2);
        Check.due("a zero path when there are none", () -> x.zero(), 1);
        Check.due("an arrow when there are none", () -> x.arrow(0, 1), 2);
        Check.due("a vertex when there are none", () -> x.vertex(), 3);
    }

    // ---- built ones

    private static void simpleOnes() {
        Meshquiver x = Check.quiver(5, 0, 1, 4, 4);
        for (int i = 0; i < 5; i++) {
            int v = i;
            Check.due("simple", () -> x.simple(v), v);
            Check.due("the dimension 1 there, and 0 elsewhere", () -> Check.dims(x, v, 5),
                    "0000".substring(0, v) + "1" + "0000".substring(v));
        }
        Check.due("a loop is 0 on it", () -> x.entryAt(4, 1, 0, 0), 0);
    }

    /** Arrows 0 and 1 from 1 to 2, 2 and 3 from 0 to 1, 4 from 0 to 2: shorter first, then by arrows. */
    private static void orderOfPaths() {
        Meshquiver x = Check.quiver(3, 1, 2, 1, 2, 0, 1, 0, 1);
        x.projective(0);
        Check.due("paths from 0", () -> Check.dims(x, 0, 3), "124");
        Check.due("2 and 3", () -> Check.matrix(x, 0, 2, 2, 1) + " " + Check.matrix(x, 0, 3, 2, 1), "1/0 0/1");
        Check.due("20 21 30 31, with 0 behind", () -> Check.matrix(x, 0, 0, 4, 2), "10/00/01/00");
        Check.due("20 21 30 31, with 1 behind", () -> Check.matrix(x, 0, 1, 4, 2), "00/10/00/01");
        x.injective(2);
        Check.due("paths to 2", () -> Check.dims(x, 1, 3), "421");
        Check.due("20 and 21 begin with 2", () -> Check.matrix(x, 1, 2, 2, 4), "1000/0100");
        Check.due("30 and 31 begin with 3", () -> Check.matrix(x, 1, 3, 2, 4), "0010/0001");
        Check.due("0 begins with 0", () -> Check.matrix(x, 1, 0, 1, 2), "10");
        Check.due("1 begins with 1", () -> Check.matrix(x, 1, 1, 1, 2), "01");
        Meshquiver y = Check.quiver(3, 1, 2, 0, 1, 0, 1, 0, 2);
        y.projective(0);
        Check.due("3 is shorter than 10 and 20", () -> Check.matrix(y, 0, 3, 3, 1), "1/0/0");
        Check.due("10 and 20 behind it", () -> Check.matrix(y, 0, 0, 3, 2), "00/10/01");
        y.injective(2);
        Check.due("3 is shorter, and to the empty one", () -> Check.matrix(y, 1, 3, 1, 3), "100");
        Check.due("10 to 0", () -> Check.matrix(y, 1, 1, 1, 3), "010");
        Check.due("20 to 0", () -> Check.matrix(y, 1, 2, 1, 3), "001");
    }

    private static void orderWithZeroPaths() {
        Meshquiver x = told(Check.quiver(3, 1, 2, 1, 2, 0, 1, 0, 1), row(2, 0));
        x.projective(0);
        Check.due("20 is zero", () -> Check.dims(x, 0, 3), "123");
        Check.due("2 goes to 0, 3 to 30", () -> Check.matrix(x, 0, 0, 3, 2), "00/01/00");
        Check.due("21 30 31, with 1 behind", () -> Check.matrix(x, 0, 1, 3, 2), "10/00/01");
        x.injective(2);
        Check.due("three paths to 2 from 0", () -> Check.dims(x, 1, 3), "321");
        Check.due("21 to 1", () -> Check.matrix(x, 1, 2, 2, 3), "000/100");
        Check.due("30 to 0, 31 to 1", () -> Check.matrix(x, 1, 3, 2, 3), "010/001");
        Check.due("relations hold in what is built", () -> x.holds(0) && x.holds(1), true);
        Meshquiver four = told(Check.quiver(1, 0, 0), row(0, 0, 0, 0));
        Check.due("four at a vertex", () -> four.projective(0) + four.injective(0), 1);
        Meshquiver ten = Check.quiver(4, 0, 1, 0, 1, 1, 2, 1, 2, 0, 3);
        ten.projective(0);
        Check.due("1 2 4 1 are eight", () -> Check.dims(ten, 0, 4), "1241");
        ten.clearModules();
        ten.arrow(0, 3);
        ten.arrow(0, 3);
        Check.due("1 2 4 3 are ten", () -> ten.projective(0), 0);
        Meshquiver eleven = Check.quiver(4, 0, 1, 0, 1, 1, 2, 1, 2, 2, 3);
        Check.due("1 2 4 4 are eleven", () -> eleven.projective(0), UOE);
        Check.due("1 2 2 are five", () -> eleven.projective(1), 0);
        Meshquiver back = Check.quiver(4, 1, 0, 1, 0, 2, 1, 2, 1, 3, 2);
        Check.due("1 2 4 4 are eleven", () -> back.injective(0), UOE);
        Check.due("1 2 2 are five", () -> back.injective(1), 0);
    }

    private static void walks() {
        // Arrow 0 from 0 to 1, arrow 1 from 2 to 1, arrow 2 a loop at 1.
        Meshquiver x = Check.quiver(3, 0, 1, 2, 1, 1, 1);
        Check.due("no step", () -> x.string(1), 0);
        Check.due("one place", () -> Check.dims(x, 0, 3), "010");
        typed(x, 1, 3, 3, -2);
        Check.due("four steps", () -> x.string(0), 1);
        Check.due("five places", () -> Check.dims(x, 1, 3), "131");
        Check.due("along to the first place there", () -> Check.matrix(x, 1, 0, 3, 1), "1/0/0");
        Check.due("from place to place", () -> Check.matrix(x, 1, 2, 3, 3), "000/100/010");
        Check.due("against from the last place", () -> Check.matrix(x, 1, 1, 3, 1), "0/0/1");
        typed(x, 2, -3, -3, -1);
        x.string(2);
        Check.due("against a loop", () -> Check.matrix(x, 2, 2, 3, 3), "010/001/000");
        Check.due("the other way", () -> Check.matrix(x, 2, 1, 3, 1) + Check.matrix(x, 2, 0, 3, 1), "1/0/00/0/1");
        typed(x, 1, 3, -3);
        Check.due("a step undone by the next", () -> x.string(0), UOE);
        typed(x, 3, -2, 2, -3);
        Check.due("a step undone between", () -> x.string(1), UOE);
        Meshquiver two = Check.quiver(2, 0, 1, 0, 1);
        typed(two, 1, -2, 1, -2, 1, -2);
        Check.due("undone only by the next one", () -> two.string(0), 0);
        Check.due("seven places", () -> Check.dims(two, 0, 2), "43");
        typed(two, 1, -2, 1, -2, 1, -2, 1);
        Check.due("eight places", () -> two.string(0), 1);
        typed(two, 1, -2, 1, -2, 1, -2, 1, -2);
        Check.due("nine places, five of them at 0", () -> two.string(0), UOE);
        Meshquiver ring = Check.quiver(3, 0, 1, 1, 2, 2, 0);
        typed(ring, 1, 2, 3, 1, 2, 3, 1, 2);
        Check.due("nine places, round and round", () -> ring.string(0), 0);
        Check.due("three at each vertex", () -> Check.dims(ring, 0, 3), "333");
    }

    private static void walksOnZeroPaths() {
        Meshquiver x = told(Check.quiver(4, 0, 1, 1, 2, 2, 3), row(0, 1, 2));
        Check.due("two of three arrows along", () -> typed(x, 1, 2).string(0), 0);
        Check.due("the other two along", () -> typed(x, 2, 3).string(1), 1);
        Check.due("all three along", () -> typed(x, 1, 2, 3).string(0), UOE);
        Check.due("all three against", () -> typed(x, -3, -2, -1).string(3), UOE);
        Check.due("two of three against", () -> typed(x, -3, -2).string(3), 2);
        Meshquiver y = told(Check.quiver(5, 0, 1, 1, 2, 2, 3, 4, 0, 3, 4), row(1, 2));
        Check.due("within, between other steps", () -> typed(y, 4, 1, 2, 3, 5).string(4), UOE);
        Check.due("against, between other steps", () -> typed(y, -5, -3, -2, -1, -4).string(4), UOE);
        Check.due("at the beginning", () -> typed(y, 2, 3, 5).string(1), UOE);
        Check.due("at the end", () -> typed(y, 4, 1, 2, 3).string(4), UOE);
        Check.due("round the ring without it", () -> typed(y, 3, 5, 4, 1, 2).string(2), 0);
        Meshquiver one = told(Check.quiver(1, 0, 0, 0, 0), row(0, 1));
        Check.due("1 and 0 are no 0 and 1", () -> typed(one, 2, 1).string(0), 0);
        Check.due("nor are they against", () -> typed(one, -1, -2).string(0), 1);
        Check.due("0 along and 1 against is no path", () -> typed(one, 1, -2).string(0), 2);
        Check.due("0 and 1 along", () -> typed(one, 1, 2).string(0), UOE);
        Check.due("0 and 1 against", () -> typed(one, -2, -1).string(0), UOE);
        Meshquiver beside = told(Check.quiver(4, 0, 1, 0, 1, 1, 2, 1, 2, 2, 3, 2, 3), row(0, 2, 4));
        int[][] others = {{2, 3, 5}, {1, 4, 5}, {1, 3, 6}};
        for (int[] steps : others) {
            Check.due("one arrow is another", () -> typed(beside, steps).string(0) >= 0, true);
            Check.due("one arrow is another, against",
                    () -> typed(beside, -steps[2], -steps[1], -steps[0]).string(3) >= 0, true);
        }
        Check.due("none is another", () -> typed(beside, 1, 3, 5).string(0), UOE);
        Check.due("none is another, against", () -> typed(beside, -5, -3, -1).string(3), UOE);
        Meshquiver fifth = told(Check.quiver(2, 0, 1, 1, 1), row(1, 1, 1), row(1, 1, 1), row(1, 1, 1),
                row(1, 1, 1), row(0, 1));
        Check.due("the fifth that is told", () -> typed(fifth, 1, 2).string(0), UOE);
    }

    private static void sums() {
        Meshquiver x = Check.quiver(2, 0, 1);
        x.field(5);
        Check.module(x, 1, 1);
        x.entry(0, 0, 0, 0, 3);
        Check.module(x, 2, 3);
        Check.fill(x, 1, 0, 2, 1, 2, 3, 4, 0, 1);
        Check.due("the first one's basis first", () -> Check.matrix(x, x.sum(0, 1), 0, 4, 3), "300/012/034/001");
        Check.due("then the other one's", () -> Check.matrix(x, x.sum(1, 0), 0, 4, 3), "120/340/010/003");
        Check.due("of itself", () -> Check.matrix(x, x.sum(0, 0), 0, 2, 2), "30/03");
        Check.module(x, 0, 0);
        Check.due("with 0", () -> Check.matrix(x, x.sum(0, 5), 0, 1, 1), "3");
        Check.due("four at a vertex", () -> x.sum(2, 5), 7);
        Check.due("five at a vertex", () -> x.sum(2, 0), UOE);
        Meshquiver y = Check.quiver(4);
        Check.module(y, 2, 2, 1, 0);
        Check.due("ten together", () -> y.sum(0, 0), 1);
        Check.due("one more", () -> y.sum(1, y.simple(3)), UOE);
    }

    // ---- parts

    private static void parts() {
        Meshquiver x = Check.quiver(3, 0, 2, 1, 2, 0, 2);
        x.field(3);
        Check.module(x, 1, 1, 3);
        Check.due("nothing is brought: the top is all", () -> x.top(0, 2), 3);
        Check.due("nothing is brought: the socle is all", () -> x.socle(0, 0), 1);
        Check.fill(x, 0, 0, 1, 1, 2, 0);
        Check.due("one is brought", () -> x.top(0, 2), 2);
        Check.fill(x, 0, 1, 1, 2, 1, 0);
        Check.due("the same line by another arrow", () -> x.top(0, 2), 2);
        Check.fill(x, 0, 2, 1, 0, 0, 1);
        Check.due("two arrows from one vertex", () -> x.top(0, 2), 1);
        Check.due("each arrow, not one, takes it to 0", () -> x.socle(0, 0), 0);
        Check.due("where no arrow begins", () -> x.socle(0, 2), 3);
        Check.due("where no arrow ends", () -> x.top(0, 0), 1);
        Check.fill(x, 0, 1, 1, 0, 1, 0);
        Check.due("all is brought by three", () -> x.top(0, 2), 0);
        Check.due("the rank of a column", () -> x.rank(0, 1), 1);
        Check.module(x, 0, 0, 0);
        Check.due("nothing of 0", () -> x.top(1, 2) + x.socle(1, 2) + x.rank(1, 0), 0);
        Meshquiver four = Check.quiver(1, 0, 0);
        Check.module(four, 4);
        for (int i = 0; i < 4; i++) {
            int rank = i;
            Check.due("ranks from 0", () -> four.rank(0, 0), rank);
            Check.due("less of the top", () -> four.top(0, 0), 4 - rank);
            Check.due("less of the socle", () -> four.socle(0, 0), 4 - rank);
            four.entry(0, 0, i, i, 1);
        }
        Check.due("to 4", () -> four.rank(0, 0), 4);
    }

    /** Ten basis vectors on a ring of three, each taken to the next one. */
    private static void layers() {
        Meshquiver x = Check.quiver(3, 0, 1, 1, 2, 2, 0);
        Check.module(x, 4, 3, 3);
        Check.due("one layer of zeros", () -> x.layers(0), 1);
        for (int i = 0; i < 9; i++) {
            x.entry(0, i % 3, (i + 1) / 3, i / 3, 1);
            int due = i + 2;
            Check.due("one layer more", () -> x.layers(0), due);
        }
        Check.due("ten layers have an end", () -> x.layers(0), 10);
        x.entry(0, 0, 0, 3, 1);
        Check.due("the tenth goes to the second", () -> x.layers(0), NSEE);
        Check.module(x, 0, 0, 0);
        Check.due("0 for the module that is 0", () -> x.layers(1), 0);
        Check.module(x, 0, 4, 4);
        Check.due("1 for what is its own top", () -> x.layers(2), 1);
        Meshquiver loop = Check.quiver(2, 0, 0, 0, 1);
        Check.module(loop, 1, 1);
        loop.entry(0, 1, 0, 0, 1);
        Check.due("two layers", () -> loop.layers(0), 2);
        loop.entry(0, 0, 0, 0, 1);
        Check.due("no end at one vertex, whatever is at the other", () -> loop.layers(0), NSEE);
    }

    // ---- maps and pieces

    private static void maps() {
        Meshquiver x = Check.quiver(3);
        Check.module(x, 4, 4, 2);
        Check.module(x, 0, 0, 0);
        Check.module(x, 1, 0, 0);
        Check.due("all 36", () -> x.maps(0, 0), 36);
        Check.due("to 0", () -> x.maps(0, 1), 0);
        Check.due("from 0", () -> x.maps(1, 0), 0);
        Check.due("of 0", () -> x.maps(1, 1), 0);
        Check.due("4 into it", () -> x.maps(2, 0), 4);
        Meshquiver y = Check.quiver(1, 0, 0, 0, 0);
        Check.module(y, 2);
        Check.fill(y, 0, 0, 2, 0, 1, 0, 0);
        Check.due("what commutes with one", () -> y.maps(0, 0), 2);
        Check.fill(y, 0, 1, 2, 0, 0, 1, 0);
        Check.due("all squares commute", () -> y.maps(0, 0), 1);
    }

    private static void alike() {
        Meshquiver x = Check.quiver(4, 0, 1);
        Check.due("0 and 0 are alike", () -> x.areAlike(Check.module(x, 0, 0, 0, 0), Check.module(x, 0, 0, 0, 0)), true);
        Check.module(x, 4, 0, 1, 0);
        Check.module(x, 4, 0, 2, 0);
        Check.due("maps of 18 dimensions, but unlike ones", () -> x.areAlike(2, 3), false);
        Check.due("with itself too many", () -> x.areAlike(3, 3), ISE);
        Check.module(x, 1, 1, 0, 0);
        Check.module(x, 1, 1, 0, 0);
        x.entry(5, 0, 0, 0, 1);
        Check.due("invertible at each vertex, but no map", () -> x.areAlike(4, 5), false);
        Check.due("nor the other way", () -> x.areAlike(5, 4), false);
        x.entry(4, 0, 0, 0, 1);
        Check.due("now it is one", () -> x.areAlike(4, 5), true);
        Check.module(x, 0, 0, 3, 0);
        Check.module(x, 0, 0, 0, 3);
        Check.due("the same dimensions together, elsewhere", () -> x.areAlike(6, 7), false);
        for (int i = 0; i < 4; i++) {
            Meshquiver y = Check.quiver(4);
            Check.module(y, 3, 2, 2, 2);
            Check.module(y, i == 0 ? 4 : 3, i == 1 ? 1 : 2, i == 2 ? 3 : 2, i == 3 ? 1 : 2);
            Check.due("unlike at one vertex, with too many maps", () -> y.areAlike(0, 1), false);
            Check.due("the other way", () -> y.areAlike(1, 0), false);
        }
        limitsOfMaps();
    }

    /** Sums of simple ones, by the squares of dimensions: 12, 7 and 5 are let through. */
    private static void limitsOfMaps() {
        int[][] through = {{2, 3, 1, 1, 1}, {3, 2, 1, 1, 1}, {5, 2, 1, 0, 0}};
        int[][] beyond = {{2, 3, 2, 0, 0}, {3, 2, 2, 0, 0}, {5, 2, 1, 1, 0}};
        for (int i = 0; i < 3; i++) {
            Meshquiver x = Check.quiver(4);
            x.field(through[i][0]);
            int[] good = through[i];
            int[] bad = beyond[i];
            Check.module(x, good[1], good[2], good[3], good[4]);
            Check.module(x, bad[1], bad[2], bad[3], bad[4]);
            int parts = good[1] + good[2] + good[3] + good[4];
            Check.due("4096 maps at most", () -> x.pieces(0), parts);
            Check.due("the last of the pieces", () -> x.piece(0, parts - 1, 0), 1);
            Check.due("alike with itself", () -> x.areAlike(0, 0), true);
            Check.due("more than 4096", () -> x.pieces(1), ISE);
            Check.due("more than 4096 for a piece", () -> x.piece(1, 0, 0), ISE);
            Check.due("more than 4096 to be alike", () -> x.areAlike(1, 1), ISE);
            Meshquiver line = Check.quiver(4, 0, 1, 1, 2, 2, 3);
            line.field(good[0]);
            Check.module(line, good[1], good[2], good[3], good[4]);
            Check.module(line, bad[1], bad[2], bad[3], bad[4]);
            Check.due("4096 maps at most for bars", () -> line.bars(0, 0, 0), good[1]);
            Check.due("more than 4096 for bars", () -> line.bars(1, 0, 0), ISE);
        }
        // Dimensions 4, 4 and 2 have the longest maps: 36 numbers, here of 12 dimensions.
        Meshquiver x = Check.quiver(3, 0, 1, 1, 2);
        Check.module(x, 4, 4, 2);
        for (int i = 0; i < 4; i++) {
            x.entry(0, 0, i, i, 1);
        }
        x.entry(0, 1, 0, 0, 1);
        x.entry(0, 1, 1, 1, 1);
        Check.due("12 dimensions of maps", () -> x.maps(0, 0), 12);
        Check.due("two of 110 and two of 111", () -> x.pieces(0), 4);
        Check.due("of which this is the third", () -> x.piece(0, 2, 2), 1);
        Check.due("as bars", () -> x.bars(0, 0, 2) * 10 + x.bars(0, 0, 1), 22);
        Check.due("alike with itself", () -> x.areAlike(0, 0), true);
        x.entry(0, 1, 1, 1, 0);
        Check.due("16384 maps and more", () -> x.pieces(0), ISE);
    }

    private static void splits() {
        Meshquiver x = Check.quiver(3, 0, 1, 1, 2);
        Check.module(x, 0, 0, 0);
        Check.due("no piece of 0", () -> x.pieces(0), 0);
        x.simple(1);
        Check.due("0 and the identity do not split", () -> x.pieces(1), 1);
        x.sum(1, 1);
        Check.due("two alike", () -> x.pieces(2), 2);
        x.projective(0);
        Check.due("a map that is neither, but no square of its own", () -> x.pieces(3), 1);
        Meshquiver loop = Check.quiver(1, 0, 0);
        Check.module(loop, 4);
        Check.fill(loop, 0, 0, 4, 0, 0, 0, 0, 1, 0, 0, 0, 0, 1, 0, 0, 0, 0, 1, 0);
        Check.due("maps that are 0 once taken often enough", () -> loop.pieces(0), 1);
        loop.entry(0, 0, 0, 0, 1);
        Check.due("one that stays: 1 and 3", () -> loop.pieces(0), 2);
        Check.due("the lesser first", () -> loop.piece(0, 0, 0) * 10 + loop.piece(0, 1, 0), 13);
        Meshquiver many = Check.quiver(5);
        Check.module(many, 2, 2, 1, 1, 1);
        Check.due("seven pieces", () -> many.pieces(0), 7);
        Check.due("the seventh", () -> many.piece(0, 6, 0), 1);
        Check.due("no eighth", () -> many.piece(0, 7, 0), NSEE);
    }

    private static void orderOfPieces() {
        Meshquiver x = Check.quiver(3, 0, 1, 1, 2);
        typed(x, 2).string(1);
        typed(x, 1).string(0);
        x.simple(2);
        x.simple(0);
        x.sum(1, 3);
        x.sum(4, 0);
        x.sum(5, 2);
        String[] due = {"001", "100", "011", "110"};
        Check.due("four pieces", () -> x.pieces(6), 4);
        for (int i = 0; i < 4; i++) {
            int index = i;
            Check.due("by dimensions together, then vertex by vertex",
                    () -> "" + x.piece(6, index, 0) + x.piece(6, index, 1) + x.piece(6, index, 2), due[i]);
        }
        // 20 has as many dimensions as 11, and at the first vertex it is greater.
        Meshquiver y = Check.quiver(2, 0, 0, 0, 1);
        Check.module(y, 3, 1);
        y.entry(0, 0, 1, 0, 1);
        y.entry(0, 1, 0, 2, 1);
        Check.due("two pieces of two dimensions", () -> y.pieces(0), 2);
        Check.due("11 first", () -> y.piece(0, 0, 0) * 10 + y.piece(0, 0, 1), 11);
        Check.due("20 then", () -> y.piece(0, 1, 0) * 10 + y.piece(0, 1, 1), 20);
    }

    // ---- syzygies

    private static int all(Meshquiver x, int module, int times, int vertices) {
        int all = 0;
        for (int v = 0; v < vertices; v++) {
            all += x.syzygy(module, times, v);
        }
        return all;
    }

    private static void syzygies() {
        Meshquiver x = told(Check.quiver(3, 0, 1, 1, 2), row(0, 1));
        Check.module(x, 0, 0, 0);
        for (int i = 0; i <= 6; i++) {
            int times = i;
            Check.due("0 has the syzygy 0", () -> all(x, 0, times, 3), 0);
        }
        x.projective(1);
        Check.due("the syzygy of a projective one is 0", () -> all(x, 1, 1, 3), 0);
        Check.due("0 times it is itself", () -> all(x, 1, 0, 3), 2);
        Check.module(x, 1, 2, 1);
        Check.fill(x, 2, 0, 1, 1, 1);
        // The top is 1, 1 and 1, so the cover is 1, 2 and 2: the arrow from 1 takes what is there to 0.
        Check.due("the cover less the module", () -> all(x, 2, 1, 3), 1);
        Check.due("which is at 2", () -> x.syzygy(2, 1, 2), 1);
    }

    /** Covers of a simple one: 5 11 17 23 29 35 41 dimensions; or up to 40, and 80 behind; or 40 sixth. */
    private static void coversOnTheWay() {
        Meshquiver x = told(Check.quiver(3, 0, 0, 0, 1, 1, 0, 2, 1, 2, 1), row(1, 2, 1), row(0, 0),
                row(4, 2, 1, 2), row(0, 0, 1), row(0, 1));
        x.simple(0);
        int[] due = {1, 4, 7, 10, 13, 16, 19};
        for (int i = 0; i <= 6; i++) {
            int times = i;
            Check.due("six covers of at most 35", () -> all(x, 0, times, 3), due[times]);
        }
        Check.due("the seventh has 41", () -> x.resolution(0), UOE);
        Meshquiver y = told(Check.quiver(2, 1, 0, 0, 1, 1, 1), row(1, 2, 2, 0), row(0, 1), row(1, 0), row(0, 1),
                row(2, 2, 2));
        y.simple(0);
        Check.due("six covers of at most 24", () -> all(y, 0, 6, 2), 8);
        Check.due("the seventh has 40, and the eighth is not met", () -> y.resolution(0), NSEE);
        Meshquiver z = told(Check.quiver(2, 0, 1, 1, 0, 1, 1), row(0, 1, 0), row(1, 0, 1, 0), row(2, 2), row(0, 2));
        z.simple(0);
        Check.due("the sixth has 40", () -> all(z, 0, 6, 2), 22);
        Check.due("the seventh has 48", () -> z.resolution(0), UOE);
        z.sum(0, 0);
        Check.due("of two: 16 at once", () -> all(z, 1, 1, 2), 4);
        Check.due("of two: 32 for the third", () -> all(z, 1, 3, 2), 20);
        Check.due("of two: 48 for the fourth", () -> z.syzygy(1, 4, 0), UOE);
        Check.due("of two: extensions meet the first alone", () -> z.extensions(1, 1), 4 * z.extensions(0, 0));
    }

    private static void extensions() {
        Meshquiver x = told(Check.quiver(2, 0, 1, 1, 0), row(0, 1), row(1, 0));
        x.simple(0);
        x.simple(1);
        Check.module(x, 0, 0);
        x.projective(0);
        Check.due("along the arrow", () -> x.extensions(0, 1), 1);
        Check.due("along the other", () -> x.extensions(1, 0), 1);
        Check.due("none of itself", () -> x.extensions(0, 0), 0);
        Check.due("none by 0", () -> x.extensions(0, 2), 0);
        Check.due("none of 0", () -> x.extensions(2, 0), 0);
        Check.due("none of a projective one", () -> x.extensions(3, 0) + x.extensions(3, 1) + x.extensions(3, 3), 0);
        Meshquiver seven = Check.quiver(2, 0, 1, 0, 1, 0, 1, 0, 1, 0, 1, 0, 1, 0, 1);
        seven.simple(0);
        seven.simple(1);
        Check.due("as many as arrows", () -> seven.extensions(0, 1), 7);
        Check.due("none against them", () -> seven.extensions(1, 0), 0);
    }

    private static void resolutions() {
        Meshquiver x = told(Check.quiver(5, 0, 1, 1, 2, 2, 3, 3, 4, 4, 0), row(0, 1), row(1, 2, 3), row(2, 3, 4),
                row(3, 4, 0));
        x.simple(2);
        Check.due("a length of 6", () -> x.resolution(0), 6);
        Check.due("the sixth syzygy is not 0", () -> all(x, 0, 6, 5) > 0, true);
        Meshquiver y = told(Check.quiver(5, 0, 1, 1, 2, 2, 3, 3, 4, 4, 0), row(0, 1, 2, 3), row(1, 2, 3, 4),
                row(2, 3, 4, 0), row(3, 4, 0, 1));
        y.simple(2);
        Check.due("a length of 7 is longer than 6", () -> y.resolution(0), NSEE);
        Check.due("its sixth syzygy", () -> all(y, 0, 6, 5) > 0, true);
        Meshquiver z = told(Check.quiver(1, 0, 0), row(0, 0));
        z.simple(0);
        Check.due("no end is longer than 6", () -> z.resolution(0), NSEE);
        Check.due("the module that is 0 has -1", () -> z.resolution(Check.module(z, 0)), -1);
        Check.due("a projective one has 0", () -> z.resolution(z.projective(0)), 0);
        Meshquiver none = new Meshquiver();
        none.module();
        Check.due("without vertices -1", () -> none.resolution(0), -1);
        Meshquiver loop = Check.quiver(1, 0, 0);
        Check.module(loop, 0);
        Check.due("of 0 the algebra is looked at too", () -> loop.resolution(0), UOE);
    }

    // ---- kinds and roots

    private static void forms() {
        Meshquiver x = Check.quiver(2, 0, 1, 0, 1, 0, 1);
        Check.due("less the first at the beginning", () -> typed(x, 1, 0, 0, 1).form(), -3);
        Check.due("and the second at the end", () -> typed(x, 0, 1, 1, 0).form(), 0);
        Check.due("the products at all vertices", () -> typed(x, 0, 9, 0, 9).form(), 81);
        Check.due("numbers below 0", () -> typed(x, 9, -9, -9, 9).form(), -81 - 81 - 3 * 81);
        Meshquiver loop = Check.quiver(1, 0, 0, 0, 0);
        Check.due("loops count", () -> typed(loop, 2, 3).form(), 6 - 12);
        Meshquiver five = Check.quiver(5, 0, 1, 1, 2, 2, 3, 3, 4, 0, 4, 0, 4, 4, 4);
        Check.due("of five with itself", () -> typed(five, 1, 2, 3, 4, 5).form(), 55 - 2 - 6 - 12 - 20 - 10 - 25);
        Check.due("-9 and 9", () -> typed(five, -9, 9, -9, 9, -9).form(), 405 + 4 * 81 - 2 * 81 - 81);
    }

    private static void kinds() {
        Check.due("f: one vertex is above 0", () -> Check.quiver(1).kind(), 'f');
        Check.due("t: two arrows come to 0", () -> Check.quiver(2, 0, 1, 0, 1).kind(), 't');
        Check.due("w: three come below", () -> Check.quiver(2, 0, 1, 0, 1, 0, 1).kind(), 'w');
        Check.due("f: four in a star of three", () -> Check.quiver(4, 0, 1, 0, 2, 3, 0).kind(), 'f');
        Check.due("t: five in a star of four", () -> Check.quiver(5, 0, 1, 0, 2, 3, 0, 4, 0).kind(), 't');
        Check.due("f: five in a star of three", () -> Check.quiver(5, 0, 1, 0, 2, 3, 0, 4, 3).kind(), 'f');
        Check.due("t: a ring of four", () -> Check.quiver(4, 0, 1, 1, 2, 2, 3, 0, 3).kind(), 't');
        Check.due("w: a ring of four and one more", () -> Check.quiver(5, 0, 1, 1, 2, 2, 3, 0, 3, 3, 4).kind(), 'w');
        Check.due("w: seven arrows", () -> Check.quiver(2, 0, 1, 0, 1, 0, 1, 0, 1, 0, 1, 0, 1, 0, 1).kind(), 'w');
        Check.due("no vertex", () -> new Meshquiver().kind(), UOE);
        Check.due("a vertex apart", () -> Check.quiver(5, 0, 1, 1, 2, 2, 3).kind(), UOE);
        Check.due("connected against arrows too", () -> Check.quiver(3, 1, 0, 1, 2).kind(), 'f');
        Check.due("a cycle of one", () -> Check.quiver(2, 0, 1, 1, 1).kind(), UOE);
        Check.due("a cycle of five", () -> Check.quiver(5, 0, 1, 1, 2, 2, 3, 3, 4, 4, 0).kind(), UOE);
        Check.due("a ring of five, one of them back", () -> Check.quiver(5, 0, 1, 1, 2, 2, 3, 3, 4, 0, 4).kind(), 't');
        Check.due("zero paths", () -> told(Check.quiver(3, 0, 1, 1, 2), row(0, 1)).kind(), UOE);
    }

    private static void roots() {
        Meshquiver x = Check.quiver(4, 1, 0, 0, 2, 3, 0);
        String[] due = {"0001", "0010", "0100", "1000", "1001", "1010", "1100", "1011", "1101", "1110", "1111", "2111"};
        Check.due("twelve", () -> x.roots(), 12);
        for (int i = 0; i < 12; i++) {
            int index = i;
            Check.due("ordered as pieces are", () -> "" + x.root(index, 0) + x.root(index, 1) + x.root(index, 2)
                    + x.root(index, 3), due[i]);
        }
        Check.due("no thirteenth", () -> x.root(12, 0), NSEE);
        Meshquiver one = Check.quiver(1);
        Check.due("not all 0, and no 2", () -> one.roots(), 1);
        Check.due("the row 1", () -> one.root(0, 0), 1);
        Meshquiver five = Check.quiver(5, 0, 2, 1, 2, 2, 3, 4, 3);
        Check.due("twenty", () -> five.roots(), 20);
        Check.due("the last one has a 2", () -> five.root(19, 2) * 10 + five.root(19, 3), 22);
        Check.due("no twenty-first", () -> five.root(20, 0), NSEE);
    }

    private static void orbits() {
        Meshquiver one = Check.quiver(1);
        Check.due("at the time 0 it is projective", () -> one.orbit(0), 0);
        Check.due("and has no translate", () -> one.translate(0), -1);
        // Of 0 to 1 and so on to 4: simple at 4 is projective, and each time one further ahead.
        Meshquiver five = Check.quiver(5, 0, 1, 1, 2, 2, 3, 3, 4);
        for (int i = 0; i < 5; i++) {
            int time = i;
            Check.due("the orbit of 4", () -> five.orbit(time), 4 + 10 * time);
        }
        Check.due("the orbit of 0 ends at once", () -> five.orbit(14), 0);
        Check.due("fifteen roots", () -> five.roots(), 15);
        Meshquiver star = Check.quiver(4, 1, 0, 0, 2, 3, 0);
        boolean[] isMet = new boolean[40];
        for (int i = 0; i < 12; i++) {
            isMet[star.orbit(i)] = true;
        }
        for (int i = 0; i < 40; i++) {
            int at = i;
            Check.due("each vertex at three times", () -> isMet[at], at % 10 < 4 && at < 30);
        }
    }

    private static void translates() {
        int[][] quivers = {{5, 0, 1, 1, 2, 2, 3, 3, 4}, {5, 0, 2, 1, 2, 2, 3, 4, 3}, {4, 1, 0, 0, 2, 3, 0}, {2, 1, 0}};
        for (int[] told : quivers) {
            int[] ends = new int[told.length - 1];
            System.arraycopy(told, 1, ends, 0, ends.length);
            Meshquiver x = Check.quiver(told[0], ends);
            for (int i = 0; i < x.roots(); i++) {
                int index = i;
                int orbit = x.orbit(i);
                int back = x.translate(i);
                Check.due("projective ones alone have no translate", () -> back == -1, orbit < 10);
                Check.due("the translate is one time ahead", () -> back < 0 ? orbit : x.orbit(back) + 10, orbit);
                Check.due("no extensions but by the translate", () -> back < 0 || x.between(index, back, true) == 1,
                        true);
            }
        }
    }

    private static void betweenRoots() {
        Meshquiver x = Check.quiver(2, 0, 1);
        // The roots are 01, 10 and 11; the form of 10 and 01 is -1.
        int[][] forms = {{1, 0, 1}, {-1, 1, 0}, {0, 1, 1}};
        for (int i = 0; i < 9; i++) {
            int one = i / 3;
            int two = i % 3;
            int form = forms[one][two];
            Check.due("the part above 0", () -> x.between(one, two, false), Math.max(form, 0));
            Check.due("or below 0 without a sign", () -> x.between(one, two, true), Math.max(-form, 0));
        }
        Meshquiver star = Check.quiver(5, 0, 2, 1, 2, 2, 3, 4, 3);
        int greatest = 0;
        for (int i = 0; i < 400; i++) {
            greatest = Math.max(greatest, star.between(i / 20, i % 20, true));
        }
        int most = greatest;
        Check.due("two extensions", () -> most, 2);
    }

    private static void tiltingSets() {
        Check.due("one", () -> Check.quiver(1).tilting(), 1);
        int[][] stars = {{1, 0, 2, 0, 3, 0}, {0, 1, 0, 2, 0, 3}, {1, 0, 0, 2, 3, 0}};
        for (int[] ends : stars) {
            Check.due("twenty, whichever way arrows go", () -> Check.quiver(4, ends).tilting(), 20);
        }
        Check.due("77 of a star of five", () -> Check.quiver(5, 0, 2, 1, 2, 2, 3, 4, 3).tilting(), 77);
        Check.due("42 of a row of five", () -> Check.quiver(5, 1, 0, 1, 2, 3, 2, 3, 4).tilting(), 42);
        Meshquiver one = Check.quiver(1);
        int[] sets = {0, 1, 2, 3, -1, Integer.MIN_VALUE, Integer.MIN_VALUE + 1, Integer.MAX_VALUE};
        for (int set : sets) {
            Check.due("the one root alone", () -> one.isTilting(set), set == 1);
        }
        Meshquiver two = Check.quiver(2, 0, 1);
        for (int i = -8; i < 16; i++) {
            int set = i;
            // 10 and 01 have extensions; 11 goes with either.
            Check.due("as many as vertices, without extensions", () -> two.isTilting(set), set == 5 || set == 6);
        }
        Meshquiver three = Check.quiver(3, 0, 1, 1, 2);
        int projective = 1 << 0 | 1 << 3 | 1 << 5;
        Check.due("projective ones", () -> three.isTilting(projective), true);
        for (int bit = 0; bit < 32; bit++) {
            int set = projective ^ 1 << bit;
            Check.due("one more, or one less", () -> three.isTilting(set), false);
        }
    }

    /** Each set of four of the twelve roots of a star, each in a house of its own. */
    private static void mutations() {
        int sets = 0;
        int moves = 0;
        for (int i = 0; i < 1 << 12; i++) {
            int set = i;
            Meshquiver x = Integer.bitCount(set) == 4 ? Check.quiver(4, 1, 0, 0, 2, 3, 0) : new Meshquiver();
            if (Integer.bitCount(set) == 4 && x.isTilting(set)) {
                sets++;
                moves += countMoves(x, set);
            }
        }
        int all = sets;
        int pairs = moves;
        Check.due("twenty sets", () -> all, 20);
        Check.due("each move has one back", () -> pairs % 2, 0);
        Check.due("some, but not all, have another root", () -> pairs > 0 && pairs < 80, true);
    }

    private static int countMoves(Meshquiver x, int set) {
        int moves = 0;
        for (int i = 0; i < 12; i++) {
            int index = i;
            String told = Check.told(() -> x.mutate(set, index));
            if ((set >> i & 1) == 0) {
                Check.due("not of this set", () -> told, IAE);
            } else if (!told.equals(NSEE)) {
                int then = Integer.parseInt(told);
                moves++;
                Check.due("the rest stays", () -> Integer.bitCount(then & set), 3);
                Check.due("tilting again", () -> x.isTilting(then), true);
                int other = Integer.numberOfTrailingZeros(then & ~set);
                Check.due("and back", () -> x.mutate(then, other), set);
            }
        }
        return moves;
    }

    // ---- clusters

    private static void clusters() {
        Meshquiver x = Check.quiver(3, 0, 1, 0, 1, 1, 2, 2, 0, 2, 0, 2, 0);
        int[][] due = {{0, 2, -3}, {-2, 0, 1}, {3, -1, 0}};
        for (int i = 0; i < 9; i++) {
            int v = i / 3;
            int w = i % 3;
            Check.due("how many arrows go, less how many come", () -> x.turned(v, w), due[v][w]);
        }
        x.turn(0);
        // Signs at 0; between 2 and 1 the 3 times 2 ways over 0 are added: -1 and 6.
        int[][] then = {{0, -2, 3}, {2, 0, -5}, {-3, 5, 0}};
        for (int i = 0; i < 9; i++) {
            int v = i / 3;
            int w = i % 3;
            Check.due("mutated at 0", () -> x.turned(v, w), then[v][w]);
        }
        Check.due("and back", () -> x.turn(0), 1);
        Check.due("b is as it was", () -> x.turned(2, 1), -1);
        x.turn(2);
        x.vertex();
        Check.due("a vertex: b as from the quiver", () -> x.turned(0, 1) * 100 + x.turned(3, 0), 200);
        Check.due("a vertex: frieze numbers too", () -> x.frieze(2) * 10 + x.frieze(3), 11);
        x.turn(2);
        x.arrow(3, 0);
        Check.due("an arrow: b as from the quiver", () -> x.turned(0, 1) * 100 + x.turned(3, 0), 201);
        Check.due("an arrow: frieze numbers too", () -> x.frieze(2), 1);
        int[][] twisted = {{0, 0, 1, 2}, {1, 2, 2, 2}, {0, 1, 1, 0, 1, 2}, {1, 2, 0, 1, 1, 0}, {2, 2}, {2, 1, 1, 2}};
        for (int[] ends : twisted) {
            for (int v = 0; v < 3; v++) {
                int vertex = v;
                Meshquiver z = Check.quiver(3, ends);
                Check.due("a loop or arrows either way: no mutation", () -> z.turn(vertex), UOE);
                Check.due("and no b", () -> z.turned(vertex, 0), UOE);
                Check.due("but frieze numbers", () -> z.frieze(vertex), 1);
            }
        }
        Check.due("arrows one way are let through", () -> Check.quiver(2, 0, 1, 0, 1).turned(1, 0), -2);
        // The greatest b that any quiver comes to before frieze numbers are too great.
        Meshquiver y = Check.quiver(4, 0, 1, 0, 1, 0, 1, 1, 2, 1, 2, 1, 3, 1, 3);
        for (int v : new int[] {1, 0, 2, 3}) {
            y.turn(v);
        }
        int greatest = 0;
        for (int i = 0; i < 16; i++) {
            greatest = Math.max(greatest, y.turned(i / 4, i % 4));
        }
        int most = greatest;
        Check.due("189", () -> most, 189);
    }

    private static void friezes() {
        Meshquiver x = Check.quiver(5, 0, 1, 0, 1, 0, 2, 2, 3, 2, 3, 4, 0);
        int[] turns = {3, 2, 0, 4, 1, 2};
        for (int v : turns) {
            x.turn(v);
        }
        Check.due("999952 is let through", () -> x.turn(1), 999952);
        Check.due("and kept", () -> x.frieze(1), 999952);
        Meshquiver y = Check.quiver(5, 0, 1, 0, 1, 1, 2, 1, 4, 3, 2, 3, 4, 4, 0);
        for (int v : new int[] {1, 3, 2, 4, 1, 0}) {
            y.turn(v);
        }
        int before = y.frieze(3);
        int b = y.turned(3, 2);
        Check.due("1000005 is not", () -> y.turn(3), UOE);
        Check.due("the number before is kept", () -> y.frieze(3), before);
        Check.due("b is kept", () -> y.turned(3, 2), b);
        Meshquiver one = Check.quiver(1);
        Check.due("two empty products", () -> one.turn(0), 2);
        Meshquiver seven = Check.quiver(2, 0, 1, 0, 1, 0, 1, 0, 1, 0, 1, 0, 1, 0, 1);
        seven.turn(0);
        Check.due("2 to the power of 7, and 1", () -> seven.turn(1), 129);
        Check.due("129 to the power of 7 is far beyond", () -> seven.turn(0), UOE);
        Check.due("and back", () -> seven.turn(1), 1);
    }

    // ---- submodules and bars

    private static void submodules() {
        Meshquiver x = Check.quiver(3, 0, 1);
        x.field(3);
        Check.module(x, 4, 4, 2);
        Check.due("16900 ways", () -> typed(x, 2, 2, 0).submodules(0), 16900);
        Check.due("16900 ways once more", () -> typed(x, 2, 2, 2).submodules(0), 16900);
        Check.due("20800 ways", () -> typed(x, 1, 2, 1).submodules(0), ISE);
        Check.due("none at all", () -> typed(x, 0, 0, 0).submodules(0), 1);
        Check.due("all of it", () -> typed(x, 4, 4, 2).submodules(0), 1);
        Check.due("one too many at a vertex", () -> typed(x, 4, 4, 3).submodules(0), 0);
        Check.due("one below 0, elsewhere too many ways", () -> typed(x, 2, 2, -1).submodules(0), 0);
        Check.due("five of four", () -> typed(x, 5, 2, 1).submodules(0), 0);
        x.entry(0, 0, 0, 0, 1);
        // A plane at 0 within the kernel of rank 1 goes with any plane at 1; any other must hold the image.
        Check.due("arrows go within", () -> typed(x, 2, 2, 0).submodules(0), 13 * 130 + 117 * 13);
        Check.module(x, 0, 0, 0);
        Check.due("of 0", () -> typed(x, 0, 0, 0).submodules(1), 1);
        Check.due("of 0 no line", () -> typed(x, 1, 0, 0).submodules(1), 0);
    }

    private static void slopes() {
        int[][] through = {{2, 4, 4, 1, 0, 0}, {3, 3, 3, 2, 1, 1}, {5, 4, 2, 1, 0, 0}};
        int[][] beyond = {{2, 4, 4, 2, 0, 0}, {3, 3, 3, 3, 0, 0}, {5, 2, 2, 2, 2, 2}};
        for (int i = 0; i < 3; i++) {
            Meshquiver x = Check.quiver(5);
            x.field(through[i][0]);
            for (int[] dims : new int[][] {through[i], beyond[i]}) {
                Check.module(x, dims[1], dims[2], dims[3], dims[4], dims[5]);
            }
            Check.due("17956, 18816 or 17920 ways", () -> x.stability(0), 'm');
            Check.due("a step of them", () -> x.filtration(0, 0, 0), through[i][1]);
            Check.due("22445, 21952 or 32768 ways", () -> x.stability(1), ISE);
            Check.due("no step of them", () -> x.filtration(1, 0, 0), ISE);
        }
        for (int i = -9; i <= 9; i++) {
            Meshquiver y = Check.quiver(2, 0, 1);
            y.projective(0);
            y.weight(0, i);
            for (int j = -9; j <= 9; j++) {
                y.weight(1, j);
                // The simple one at 1 alone lies within; its slope is its weight.
                char due = j < i ? 's' : j == i ? 'm' : 'u';
                Check.due("weights " + i + " and " + j, () -> y.stability(0), due);
                Check.due("its first step", () -> y.filtration(0, 0, 0), due == 'u' ? 0 : 1);
                Check.due("its second one", () -> y.filtration(0, 1, 0), due == 'u' ? 1 : NSEE);
            }
        }
        Meshquiver x = Check.quiver(2, 0, 1);
        Check.due("0 and itself aside", () -> x.stability(x.simple(0)), 's');
        Check.due("0 is neither", () -> x.stability(Check.module(x, 0, 0)), NSEE);
    }

    private static void filtrations() {
        Meshquiver x = Check.quiver(5);
        Check.module(x, 1, 2, 1, 1, 1);
        int[] weights = {-9, 9, 0, 9, -1};
        for (int v = 0; v < 5; v++) {
            x.weight(v, weights[v]);
        }
        String[] due = {"02010", "00100", "00001", "10000"};
        for (int i = 0; i < 4; i++) {
            int step = i;
            Check.due("the greatest slope first, then what is left",
                    () -> "" + x.filtration(0, step, 0) + x.filtration(0, step, 1) + x.filtration(0, step, 2)
                            + x.filtration(0, step, 3) + x.filtration(0, step, 4), due[i]);
        }
        Check.due("no fifth step", () -> x.filtration(0, 4, 0), NSEE);
        x.simple(3);
        Check.due("one step of a simple one", () -> x.filtration(1, 0, 3), 1);
        Check.due("and no other", () -> x.filtration(1, 1, 3), NSEE);
        Check.module(x, 0, 0, 0, 0, 0);
        Check.due("no step of 0", () -> x.filtration(2, 0, 0), NSEE);
    }

    private static void bars() {
        Meshquiver one = Check.quiver(1);
        Check.module(one, 3);
        Check.due("one vertex is a row", () -> one.bars(0, 0, 0), 3);
        Meshquiver x = Check.quiver(5, 0, 1, 2, 1, 2, 3, 4, 3);
        Check.module(x, 1, 1, 1, 1, 1);
        for (int a = 0; a < 4; a++) {
            x.entry(0, a, 0, 0, 1);
        }
        Check.due("from the first to the last", () -> x.bars(0, 0, 4), 1);
        Check.due("from a vertex to itself", () -> x.bars(0, 2, 2), 0);
        x.entry(0, 2, 0, 0, 0);
        Check.due("broken in two", () -> x.bars(0, 0, 2) * 10 + x.bars(0, 3, 4), 11);
        Check.due("none through any more", () -> x.bars(0, 0, 4), 0);
        Check.due("the wrong way round", () -> x.bars(0, 4, 3), IOOBE);
        Check.module(x, 0, 0, 0, 0, 0);
        Check.due("none of 0", () -> x.bars(1, 0, 4), 0);
        int[][] noRows = {{0, 1, 1, 2, 0, 2}, {0, 1, 1, 2, 1, 2}, {0, 1}, {0, 2, 1, 2}, {0, 1, 1, 1}, {0, 1, 1, 0}, {}};
        for (int[] ends : noRows) {
            Meshquiver y = Check.quiver(3, ends);
            y.simple(0);
            Check.due("one arrow each, 0 and 1, 1 and 2", () -> y.bars(0, 0, 0), UOE);
        }
        Meshquiver zero = told(Check.quiver(3, 0, 1, 1, 2), row(0, 1));
        zero.simple(0);
        Check.due("without zero paths", () -> zero.bars(0, 0, 0), UOE);
    }
}
