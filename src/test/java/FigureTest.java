/** Promises 51 to 54: sums, shares, means and the invariants. */
public final class FigureTest {
    private static final String IOOBE = "throws.IndexOutOfBoundsException";
    private static final String NONE = "throws.ArithmeticException";

    public static void main(String[] args) {
        checksum();
        zeroShare();
        meanDimension();
        isConsistent();
        edgesOfSums();
        edgesOfShares();
        edgesOfMeans();
        edgesOfInvariants();
        Check.finish();
    }

    private static void checksum() {
        Meshquiver x = Check.quiver(2, 0, 1, 1, 1);
        x.field(5);
        Check.module(x, 1, 2);
        Check.fill(x, 0, 0, 1, 4, 3);
        Check.fill(x, 0, 1, 2, 1, 0, 2, 4);
        long due = 11;
        for (int number : new int[] {1, 2, 4, 3, 1, 0, 2, 4}) {
            due = 31 * due + number;
        }
        Check.due("P51 checksum", () -> x.checksum(0), due);
        Check.due("P51 no such module", () -> x.checksum(1), IOOBE);
        Check.due("P51 no such module", () -> x.checksum(-1), IOOBE);
        Meshquiver none = new Meshquiver();
        none.module();
        Check.due("P51 of nothing", () -> none.checksum(0), 11);
        Meshquiver far = Check.quiver(1, 0, 0, 0, 0);
        Check.module(far, 4);
        long wide = 31 * 11 + 4;
        for (int i = 0; i < 32; i++) {
            far.entry(0, i / 16, i / 4 % 4, i % 4, i % 3 == 0 ? 1 : 0);
            wide = 31 * wide + (i % 3 == 0 ? 1 : 0);
        }
        Check.due("P51 beyond 64 bits", () -> far.checksum(0), wide);
    }

    private static void zeroShare() {
        Meshquiver x = Check.quiver(2, 0, 1, 1, 0);
        Check.module(x, 1, 3);
        Check.due("P52 all of them", () -> x.zeroShare(0), 1.0f);
        x.entry(0, 0, 1, 0, 1);
        x.entry(0, 1, 0, 1, 3);
        Check.due("P52 four of six", () -> x.zeroShare(0), 4.0f / 6.0f);
        x.entry(0, 1, 0, 1, 2);
        Check.due("P52 2 is 0 modulo 2", () -> x.zeroShare(0), 5.0f / 6.0f);
        x.simple(0);
        Check.due("P52 no numbers", () -> x.zeroShare(1), NONE);
        Check.due("P52 no such module", () -> x.zeroShare(2), IOOBE);
        Check.due("P52 no such module", () -> x.zeroShare(-1), IOOBE);
    }

    private static void meanDimension() {
        Meshquiver x = Check.quiver(2, 0, 1);
        Check.due("P53 none", () -> x.meanDimension(), NONE);
        Check.module(x, 0, 0);
        Check.due("P53 of 0", () -> x.meanDimension(), 0.0);
        Check.module(x, 3, 1);
        x.simple(1);
        Check.due("P53 five by three", () -> x.meanDimension(), 5.0 / 3.0);
        x.clearModules();
        Check.due("P53 none again", () -> x.meanDimension(), NONE);
    }

    private static void isConsistent() {
        Meshquiver x = Check.quiver(3, 0, 1, 1, 2);
        Check.module(x, 1, 2, 1);
        Check.fill(x, 0, 0, 1, 1, 1);
        Check.fill(x, 0, 1, 2, 1, 0);
        x.projective(0);
        x.turn(1);
        Check.due("P54 a row with modules", () -> x.isConsistent(), true);
        Meshquiver wide = Check.quiver(1, 0, 0, 0, 0);
        Check.module(wide, 4);
        Check.due("P54 not finite", () -> wide.isConsistent(), true);
        Meshquiver high = Check.quiver(5, 0, 1, 0, 1, 1, 2, 0, 3, 0, 3, 3, 4, 0, 4);
        Check.module(high, 4, 0, 0, 0, 0);
        Check.module(high, 3, 0, 0, 0, 1);
        Check.due("P54 a cover of 40", () -> high.isConsistent(), true);
        Meshquiver broken = Check.quiver(1, 0, 0);
        Check.type(broken, 0, 0);
        broken.zero();
        Check.module(broken, 2);
        broken.entry(0, 0, 0, 0, 1);
        Check.due("P54 relations do not hold", () -> broken.isConsistent(), true);
        Check.due("P54 a branch of five", () -> Check.quiver(5, 0, 1, 1, 2, 2, 3, 4, 2).isConsistent(), true);
        Check.due("P54 nothing", () -> new Meshquiver().isConsistent(), true);
    }

    private static void edgesOfSums() {
        Meshquiver x = Check.quiver(3, 0, 1);
        Check.module(x, 0, 0, 0);
        Check.due("P51 three dimensions of 0", () -> x.checksum(0), 11 * 31 * 31 * 31);
        x.simple(2);
        Check.due("P51 the last vertex last", () -> x.checksum(1), 11 * 31 * 31 * 31 + 1);
        x.simple(0);
        Check.due("P51 the first vertex first", () -> x.checksum(2), 11 * 31 * 31 * 31 + 31 * 31);
        Meshquiver two = Check.quiver(2, 0, 1, 1, 0);
        Check.module(two, 1, 2);
        long start = (11L * 31 + 1) * 31 + 2;
        two.entry(0, 1, 0, 1, 1);
        Check.due("P51 the last number of the last arrow", () -> two.checksum(0), start * 31 * 31 * 31 * 31 + 1);
        two.entry(0, 0, 1, 0, 1);
        Check.due("P51 the last row of the first one", () -> two.checksum(0),
                ((start * 31 * 31 + 1) * 31) * 31 + 1);
        // As many numbers as there can be: it goes beyond 64 bits ten times over.
        Meshquiver wide = Check.quiver(1, 0, 0, 0, 0, 0, 0, 0, 0, 0, 0, 0, 0, 0, 0);
        wide.field(5);
        Check.module(wide, 4);
        long due = 11 * 31 + 4;
        for (int i = 0; i < 112; i++) {
            int number = (i * i + 3) % 5;
            wide.entry(0, i / 16, i / 4 % 4, i % 4, number);
            due = 31 * due + number;
        }
        long sum = due;
        Check.due("P51 112 numbers", () -> wide.checksum(0), sum);
    }

    private static void edgesOfShares() {
        Meshquiver x = Check.quiver(1, 0, 0);
        x.field(5);
        Check.module(x, 1);
        Check.due("P52 one number, which is 0", () -> x.zeroShare(0), 1.0f);
        x.entry(0, 0, 0, 0, 4);
        Check.due("P52 one number, which is not", () -> x.zeroShare(0), 0.0f);
        x.entry(0, 0, 0, 0, -5);
        Check.due("P52 -5 is 0 modulo 5", () -> x.zeroShare(0), 1.0f);
        Check.module(x, 0);
        Check.due("P52 no numbers of 0", () -> x.zeroShare(1), NONE);
        Meshquiver y = Check.quiver(2, 0, 1);
        Check.module(y, 1, 3);
        y.entry(0, 0, 0, 0, 1);
        Check.due("P52 2 of 3 as a float", () -> y.zeroShare(0), 2.0f / 3.0f);
        Check.module(y, 4, 0);
        Check.due("P52 no rows", () -> y.zeroShare(1), NONE);
        Check.module(y, 0, 4);
        Check.due("P52 no columns", () -> y.zeroShare(2), NONE);
        Meshquiver apart = Check.quiver(2);
        Check.module(apart, 4, 4);
        Check.due("P52 no arrows", () -> apart.zeroShare(0), NONE);
    }

    private static void edgesOfMeans() {
        Meshquiver x = Check.quiver(3);
        Check.module(x, 4, 4, 2);
        Check.due("P53 ten by one", () -> x.meanDimension(), 10.0);
        Check.module(x, 0, 0, 0);
        Check.due("P53 ten by two", () -> x.meanDimension(), 5.0);
        x.simple(0);
        Check.due("P53 eleven by three, as a double", () -> x.meanDimension(), 11.0 / 3.0);
        for (int i = 3; i < 12; i++) {
            Check.module(x, 4, 4, 2);
        }
        Check.due("P53 all twelve", () -> x.meanDimension(), 101.0 / 12.0);
        x.clearModules();
        Check.due("P53 none", () -> x.meanDimension(), NONE);
    }

    private static void edgesOfInvariants() {
        // Twelve paths from 0: of three such tops the cover has 36 dimensions, of four 48.
        Meshquiver x = Check.quiver(5, 0, 1, 0, 1, 0, 1, 1, 2, 0, 3, 3, 4, 2, 4);
        Check.module(x, 3, 0, 0, 0, 0);
        Check.due("P54 a cover of 36", () -> x.isConsistent(), true);
        Check.module(x, 4, 0, 0, 0, 0);
        Check.due("P29 a cover of 48", () -> x.syzygy(1, 1, 0), "throws.UnsupportedOperationException");
        Check.due("P54 a cover of 48", () -> x.isConsistent(), true);
        Check.module(x, 4, 1, 0, 0, 0);
        Check.due("P54 five dimensions together", () -> x.isConsistent(), true);
        Check.module(x, 0, 0, 0, 0, 0);
        Check.due("P54 the module that is 0", () -> x.isConsistent(), true);
        x.turn(1);
        Check.due("P54 a cluster that is turned", () -> x.isConsistent(), true);
        Meshquiver looped = Check.quiver(2, 0, 0, 0, 1, 1, 0);
        looped.simple(0);
        Check.due("P54 no b numbers that may be asked for", () -> looped.isConsistent(), true);
    }
}
