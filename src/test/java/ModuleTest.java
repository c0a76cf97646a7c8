/** Promises 11 to 24: modules, their matrices, built ones, ranks, top, socle and layers. */
public final class ModuleTest {
    private static final String IAE = "throws.IllegalArgumentException";
    private static final String ISE = "throws.IllegalStateException";
    private static final String IOOBE = "throws.IndexOutOfBoundsException";
    private static final String NSEE = "throws.NoSuchElementException";
    private static final String UOE = "throws.UnsupportedOperationException";

    public static void main(String[] args) {
        module();
        entries();
        holds();
        simple();
        projective();
        injective();
        string();
        stringOnZeros();
        sum();
        figuresOfVertices();
        layers();
        Check.finish();
    }

    private static void module() {
        Meshquiver x = Check.quiver(3, 0, 1);
        Check.type(x, 4, 4, 2);
        Check.due("P11 ten dimensions", () -> x.module(), 0);
        Check.type(x, 4, 4, 3);
        Check.due("P11 eleven", () -> x.module(), IAE);
        Check.type(x, 5, 0, 0);
        Check.due("P11 five at a vertex", () -> x.module(), IAE);
        Check.type(x, 1, -1, 0);
        Check.due("P11 below 0", () -> x.module(), IAE);
        Check.type(x, 1, 1);
        Check.due("P11 too few", () -> x.module(), IAE);
        Check.type(x, 1, 1, 0, 0);
        Check.due("P11 too many", () -> x.module(), IAE);
        Check.due("P11 the zero module", () -> Check.module(x, 0, 0, 0), 1);
        Check.due("P11 its matrices are 0", () -> Check.matrix(x, 0, 0, 4, 4), "0000/0000/0000/0000");
        for (int i = 2; i < 12; i++) {
            Check.module(x, 0, 1, 0);
        }
        Check.type(x, 0, 1, 0);
        Check.due("P11 the thirteenth", () -> x.module(), ISE);
        Check.type(x, 0, 1);
        Check.due("P11 the row comes first", () -> x.module(), IAE);
    }

    private static void entries() {
        Meshquiver x = Check.quiver(2, 0, 1, 1, 0);
        x.field(5);
        Check.module(x, 2, 3);
        Check.due("P12 entry", () -> x.entry(0, 0, 2, 1, 9), 0);
        Check.due("P12 9 modulo 5", () -> x.entry(0, 0, 2, 1, -9), 4);
        Check.due("P12 -9 modulo 5", () -> x.entryAt(0, 0, 2, 1), 1);
        Check.due("P12 rows are of the end", () -> x.entry(0, 0, 3, 0, 1), IOOBE);
        Check.due("P12 columns are of the beginning", () -> x.entry(0, 0, 0, 2, 1), IOOBE);
        Check.due("P12 the other arrow", () -> x.entry(0, 1, 1, 2, 5), 0);
        Check.due("P12 5 modulo 5", () -> x.entryAt(0, 1, 1, 2), 0);
        Check.due("P12 out of range", () -> x.entry(0, 0, 0, 0, 10), IAE);
        Check.due("P12 out of range", () -> x.entry(0, 0, 0, 0, -10), IAE);
        Check.due("P12 the place comes first", () -> x.entry(0, 0, 0, 2, 10), IOOBE);
        for (int bad : new int[] {-1, 2, 99, Integer.MAX_VALUE, Integer.MIN_VALUE}) {
            Check.due("P12 no such module", () -> x.entry(bad, 0, 0, 0, 1), IOOBE);
            Check.due("P12 no such arrow", () -> x.entry(0, bad, 0, 0, 1), IOOBE);
            Check.due("P13 no such module", () -> x.entryAt(bad, 0, 0, 0), IOOBE);
            Check.due("P13 no such arrow", () -> x.entryAt(0, bad, 0, 0), IOOBE);
        }
        Check.due("P13 no such row", () -> x.entryAt(0, 0, -1, 0), IOOBE);
        Check.due("P13 no such column", () -> x.entryAt(0, 0, 0, -1), IOOBE);
        Check.due("P13 the others are untouched", () -> Check.matrix(x, 0, 0, 3, 2), "00/00/01");
        Meshquiver y = Check.quiver(1, 0, 0);
        y.field(3);
        Check.module(y, 1);
        y.entry(0, 0, 0, 0, -1);
        Check.due("P12 -1 modulo 3", () -> y.entryAt(0, 0, 0, 0), 2);
    }

    private static void holds() {
        Meshquiver x = Check.quiver(3, 0, 1, 1, 2);
        x.field(3);
        Check.type(x, 0, 1);
        x.zero();
        Check.module(x, 1, 2, 1);
        Check.due("P14 of zeros", () -> x.holds(0), true);
        Check.fill(x, 0, 0, 1, 1, 1);
        Check.fill(x, 0, 1, 2, 1, 1);
        Check.due("P14 1 plus 1 modulo 3", () -> x.holds(0), false);
        x.entry(0, 1, 0, 1, 2);
        Check.due("P14 1 plus 2 modulo 3", () -> x.holds(0), true);
        Check.due("P14 no such module", () -> x.holds(1), IOOBE);
        Check.due("P14 no such module", () -> x.holds(-1), IOOBE);
        Meshquiver free = Check.quiver(1, 0, 0);
        Check.module(free, 2);
        Check.fill(free, 0, 0, 2, 1, 1, 0, 1);
        Check.due("P14 without zero paths", () -> free.holds(0), true);
        Meshquiver loop = Check.quiver(1, 0, 0);
        Check.type(loop, 0, 0, 0);
        loop.zero();
        Check.module(loop, 3);
        Check.fill(loop, 0, 0, 3, 0, 1, 0, 0, 0, 1, 0, 0, 0);
        Check.due("P14 a third power", () -> loop.holds(0), true);
        loop.entry(0, 0, 2, 0, 1);
        Check.due("P14 one that goes round", () -> loop.holds(0), false);
    }

    private static void simple() {
        Meshquiver x = Check.quiver(3, 0, 1, 1, 1);
        Check.due("P15 simple", () -> x.simple(1), 0);
        Check.due("P15 its dimensions", () -> Check.dims(x, 0, 3), "010");
        Check.due("P15 a loop is 0 there", () -> x.entryAt(0, 1, 0, 0), 0);
        Check.due("P15 no such vertex", () -> x.simple(3), IOOBE);
        Check.due("P15 no such vertex", () -> x.simple(-1), IOOBE);
        for (int i = 1; i < 12; i++) {
            x.simple(0);
        }
        Check.due("P15 the thirteenth", () -> x.simple(0), ISE);
        Check.due("P15 the vertex comes first", () -> x.simple(9), IOOBE);
    }

    private static void projective() {
        Meshquiver x = Check.quiver(3, 0, 1, 0, 1, 1, 2, 0, 2);
        Check.due("P16 projective", () -> x.projective(0), 0);
        Check.due("P16 dimensions by paths", () -> Check.dims(x, 0, 3), "123");
        Check.due("P16 the first arrow", () -> Check.matrix(x, 0, 0, 2, 1), "1/0");
        Check.due("P16 the second arrow", () -> Check.matrix(x, 0, 1, 2, 1), "0/1");
        Check.due("P16 the shorter path is first", () -> Check.matrix(x, 0, 3, 3, 1), "1/0/0");
        Check.due("P16 longer ones behind it", () -> Check.matrix(x, 0, 2, 3, 2), "00/10/01");
        Check.due("P16 of the last vertex", () -> Check.dims(x, x.projective(2), 3), "001");
        Check.due("P16 no such vertex", () -> x.projective(3), IOOBE);
        x.clearModules();
        Check.type(x, 0, 2);
        x.zero();
        x.projective(0);
        Check.due("P16 a zero path", () -> Check.matrix(x, 0, 2, 2, 2), "00/01");
        Meshquiver loop = Check.quiver(1, 0, 0);
        Check.due("P16 not finite", () -> loop.projective(0), UOE);
        Check.type(loop, 0, 0, 0, 0);
        loop.zero();
        Check.due("P16 four paths", () -> loop.projective(0), 0);
        Check.due("P16 a loop", () -> Check.matrix(loop, 0, 0, 4, 4), "0000/1000/0100/0010");
        Meshquiver wide = Check.quiver(2, 0, 1, 0, 1, 0, 1, 0, 1, 0, 1);
        Check.due("P16 five at a vertex", () -> wide.projective(0), UOE);
        Check.due("P16 one is not too great", () -> wide.projective(1), 0);
        for (int i = 1; i < 12; i++) {
            wide.simple(0);
        }
        Check.due("P16 dimensions come first", () -> wide.projective(0), UOE);
        Check.due("P16 the thirteenth", () -> wide.projective(1), ISE);
        Check.due("P17 the thirteenth", () -> wide.injective(0), ISE);
        Meshquiver high = Check.quiver(4, 0, 1, 0, 1, 0, 1, 1, 2, 0, 2, 2, 3);
        // 1, 3, 4 and 4 paths: twelve together.
        Check.due("P16 twelve together", () -> high.projective(0), UOE);
    }

    private static void injective() {
        Meshquiver x = Check.quiver(3, 0, 1, 0, 1, 1, 2, 0, 2);
        Check.due("P17 injective", () -> x.injective(2), 0);
        Check.due("P17 dimensions by paths", () -> Check.dims(x, 0, 3), "311");
        Check.due("P17 an arrow that begins a path", () -> Check.matrix(x, 0, 0, 1, 3), "010");
        Check.due("P17 the other one", () -> Check.matrix(x, 0, 1, 1, 3), "001");
        Check.due("P17 the short one", () -> Check.matrix(x, 0, 3, 1, 3), "100");
        Check.due("P17 the last arrow", () -> Check.matrix(x, 0, 2, 1, 1), "1");
        Check.due("P17 of the first vertex", () -> Check.dims(x, x.injective(0), 3), "100");
        Check.due("P17 no such vertex", () -> x.injective(-1), IOOBE);
        Meshquiver loop = Check.quiver(1, 0, 0);
        Check.due("P17 not finite", () -> loop.injective(0), UOE);
        Check.type(loop, 0, 0, 0);
        loop.zero();
        loop.injective(0);
        Check.due("P17 a loop takes away", () -> Check.matrix(loop, 0, 0, 3, 3), "010/001/000");
        Meshquiver wide = Check.quiver(2, 0, 1, 0, 1, 0, 1, 0, 1, 0, 1);
        Check.due("P17 five at a vertex", () -> wide.injective(1), UOE);
        Check.due("P17 the vertex comes first", () -> wide.injective(2), IOOBE);
    }

    private static void string() {
        Meshquiver x = Check.quiver(3, 0, 1, 2, 1, 1, 1);
        Check.due("P18 no step", () -> x.string(2), 0);
        Check.due("P18 a simple one", () -> Check.dims(x, 0, 3), "001");
        Check.type(x, 1, 3, -2);
        Check.due("P18 along, round and against", () -> x.string(0), 1);
        Check.due("P18 its places", () -> Check.dims(x, 1, 3), "121");
        Check.due("P18 along", () -> Check.matrix(x, 1, 0, 2, 1), "1/0");
        Check.due("P18 against", () -> Check.matrix(x, 1, 1, 2, 1), "0/1");
        Check.due("P18 the loop", () -> Check.matrix(x, 1, 2, 2, 2), "00/10");
        Check.type(x, 1, -3, -2);
        x.string(0);
        Check.due("P18 the loop against", () -> Check.matrix(x, 2, 2, 2, 2), "01/00");
        int[][] noWalks = {{2}, {-1}, {1, 1}, {0}, {1, 0}, {4}, {-9}, {1, -2, 1}, {9}};
        for (int[] steps : noWalks) {
            Check.type(x, steps);
            Check.due("P18 no walk", () -> x.string(0), IAE);
        }
        Check.due("P18 no such vertex", () -> x.string(3), IOOBE);
        Check.due("P18 no such vertex", () -> x.string(-1), IOOBE);
        Check.type(x, 1, -1);
        Check.due("P18 a step undone", () -> x.string(0), UOE);
        Check.type(x, 1, 3, -3);
        Check.due("P18 a loop undone", () -> x.string(0), UOE);
        Check.type(x, 1, 3, 3, 3);
        Check.due("P18 four places", () -> x.string(0), 3);
        Check.type(x, 1, 3, 3, 3, 3);
        Check.due("P18 five places", () -> x.string(0), UOE);
        for (int i = 4; i < 12; i++) {
            x.simple(0);
        }
        Check.due("P18 dimensions come first", () -> x.string(0), UOE);
        Check.type(x, 1);
        Check.due("P18 the thirteenth", () -> x.string(0), ISE);
        Check.due("P18 the row stays", () -> x.clearRow(), 1);
    }

    private static void stringOnZeros() {
        Meshquiver x = Check.quiver(3, 0, 1, 1, 2, 1, 2);
        Check.type(x, 0, 1);
        x.zero();
        Check.type(x, 1, 2);
        Check.due("P18 along a zero path", () -> x.string(0), UOE);
        Check.type(x, -2, -1);
        Check.due("P18 against a zero path", () -> x.string(2), UOE);
        Check.type(x, 1, 3, -2);
        Check.due("P18 round about it", () -> x.string(0), 0);
        Check.type(x, 1, 3, -2, -1);
        Check.due("P18 against it at the end", () -> x.string(0), UOE);
        // The zero path's arrows in the wrong order are no path, and no zero.
        Meshquiver y = Check.quiver(1, 0, 0, 0, 0);
        Check.type(y, 0, 1);
        y.zero();
        Check.type(y, 2, 1);
        Check.due("P18 the other order along", () -> y.string(0), 0);
        Check.type(y, -1, -2);
        Check.due("P18 the other order against", () -> y.string(0), 1);
        Check.type(y, -2, -1);
        Check.due("P18 against", () -> y.string(0), UOE);
    }

    private static void sum() {
        Meshquiver x = Check.quiver(2, 0, 1);
        x.field(3);
        Check.module(x, 1, 2);
        Check.fill(x, 0, 0, 1, 1, 2);
        Check.module(x, 2, 1);
        Check.fill(x, 1, 0, 2, 2, 1);
        Check.due("P19 sum", () -> x.sum(0, 1), 2);
        Check.due("P19 the first one's basis first", () -> Check.matrix(x, 2, 0, 3, 3), "100/200/021");
        Check.due("P19 the other way", () -> Check.matrix(x, x.sum(1, 0), 0, 3, 3), "210/001/002");
        Check.due("P19 with itself", () -> Check.matrix(x, x.sum(0, 0), 0, 4, 2), "10/20/01/02");
        Check.due("P19 five at a vertex", () -> x.sum(2, 2), UOE);
        Check.due("P19 no such module", () -> x.sum(5, 0), IOOBE);
        Check.due("P19 no such module", () -> x.sum(0, -1), IOOBE);
        x.entry(0, 0, 0, 0, 0);
        Check.due("P19 a copy", () -> x.entryAt(2, 0, 0, 0), 1);
        for (int i = 5; i < 12; i++) {
            x.simple(0);
        }
        Check.due("P19 dimensions come first", () -> x.sum(2, 2), UOE);
        Check.due("P19 the thirteenth", () -> x.sum(0, 0), ISE);
        Meshquiver y = Check.quiver(4);
        Check.module(y, 2, 2, 2, 0);
        Check.due("P19 twelve together", () -> y.sum(0, 0), UOE);
        Check.module(y, 2, 2, 0, 0);
        Check.due("P19 ten together", () -> y.sum(0, 1), 2);
    }

    private static void figuresOfVertices() {
        Meshquiver x = Check.quiver(3, 0, 1, 2, 1, 1, 1);
        Check.module(x, 2, 3, 1);
        Check.fill(x, 0, 0, 2, 1, 1, 0, 0, 0, 0);
        Check.fill(x, 0, 1, 1, 0, 1, 0);
        Check.fill(x, 0, 2, 3, 0, 0, 0, 0, 0, 0, 1, 1, 0);
        Check.due("P20 dimension", () -> x.dimension(0, 1), 3);
        Check.due("P21 rank", () -> x.rank(0, 0), 1);
        Check.due("P21 of the loop", () -> x.rank(0, 2), 1);
        Check.due("P22 nothing comes", () -> x.top(0, 0), 2);
        Check.due("P22 all is brought there", () -> x.top(0, 1), 0);
        Check.due("P23 of the beginning", () -> x.socle(0, 0), 1);
        Check.due("P23 what the loop takes to 0", () -> x.socle(0, 1), 2);
        Check.due("P23 of the other one", () -> x.socle(0, 2), 0);
        x.entry(0, 2, 2, 0, 0);
        x.entry(0, 2, 2, 1, 0);
        Check.due("P22 one is left", () -> x.top(0, 1), 1);
        Check.due("P23 all is taken to 0", () -> x.socle(0, 1), 3);
        for (int bad : new int[] {-1, 3}) {
            Check.due("P20 no such vertex", () -> x.dimension(0, bad), IOOBE);
            Check.due("P20 no such module", () -> x.dimension(bad, 0), IOOBE);
            Check.due("P21 no such arrow", () -> x.rank(0, bad), IOOBE);
            Check.due("P21 no such module", () -> x.rank(bad, 0), IOOBE);
            Check.due("P22 no such vertex", () -> x.top(0, bad), IOOBE);
            Check.due("P22 no such module", () -> x.top(bad, 0), IOOBE);
            Check.due("P23 no such vertex", () -> x.socle(0, bad), IOOBE);
            Check.due("P23 no such module", () -> x.socle(bad, 0), IOOBE);
        }
        Meshquiver y = Check.quiver(2, 0, 1);
        y.field(5);
        Check.module(y, 2, 2);
        Check.fill(y, 0, 0, 2, 1, 2, 3, 1);
        Check.due("P21 modulo 5 the rows are alike", () -> y.rank(0, 0), 1);
        y.entry(0, 0, 1, 1, 2);
        Check.due("P21 now they are not", () -> y.rank(0, 0), 2);
    }

    private static void layers() {
        Meshquiver x = Check.quiver(3, 0, 1, 1, 2);
        Check.module(x, 0, 0, 0);
        Check.due("P24 the zero module", () -> x.layers(0), 0);
        x.simple(1);
        Check.due("P24 a simple one", () -> x.layers(1), 1);
        x.projective(0);
        Check.due("P24 a projective one", () -> x.layers(2), 3);
        Check.module(x, 1, 2, 1);
        Check.fill(x, 3, 0, 1, 1, 0);
        Check.fill(x, 3, 1, 2, 0, 1);
        Check.due("P24 two arrows apart", () -> x.layers(3), 2);
        Check.due("P24 no such module", () -> x.layers(4), IOOBE);
        Meshquiver loop = Check.quiver(1, 0, 0);
        Check.module(loop, 4);
        Check.fill(loop, 0, 0, 4, 0, 0, 0, 0, 1, 0, 0, 0, 0, 1, 0, 0, 0, 0, 1, 0);
        Check.due("P24 four of a loop", () -> loop.layers(0), 4);
        loop.entry(0, 0, 0, 0, 1);
        Check.due("P24 no end", () -> loop.layers(0), NSEE);
        Meshquiver ring = Check.quiver(2, 0, 1, 1, 0);
        Check.module(ring, 2, 2);
        Check.fill(ring, 0, 0, 2, 1, 0, 0, 1);
        Check.fill(ring, 0, 1, 2, 0, 1, 0, 0);
        Check.due("P24 round and at an end", () -> ring.layers(0), 4);
        ring.entry(0, 1, 1, 0, 1);
        Check.due("P24 round without end", () -> ring.layers(0), NSEE);
    }
}
