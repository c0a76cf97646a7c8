/** Promises 51 to 54: sums, shares, means and the invariants. */
public final class FigureTest {
    private static final String IOOBE = "throws.IndexOutOfBoundsException";
    private static final String NONE = "throws.ArithmeticException";

    public static void main(String[] args) {
        checksum();
        zeroShare();
        meanDimension();
        isConsistent();
        Check.finish();
    }

    private static void checksum() {
        Meshquiver x = Check.quiver(2, 0, 1, 1, 1);
        x.field(5);
        Check.module(x, 1, 2);
        Check.fill(x, 0, 0, 1, 4, 3);
        Check.fill(x, 0, 1, 2, 1, 0, 2, 4);
        long due = 11;
        for (int number : new int[] {1, 2, 4, 3, 1, 0, 2, 4}) {
            due = 31 * due + number;
        }
        Check.due("P51 checksum", () -> x.checksum(0), due);
        Check.due("P51 no such module", () -> x.checksum(1), IOOBE);
        Check.due("P51 no such module", () -> x.checksum(-1), IOOBE);
        Meshquiver none = new Meshquiver();
        none.module();
        Check.due("P51 of nothing", () -> none.checksum(0), 11);
        Meshquiver far = Check.quiver(1, 0, 0, 0, 0);
        Check.module(far, 4);
        long wide = 31 * 11 + 4;
        for (int i = 0; i < 32; i++) {
            far.entry(0, i / 16, i / 4 % 4, i % 4, i % 3 == 0 ? 1 : 0);
            wide = 31 * wide + (i % 3 == 0 ? 1 : 0);
        }
        Check.due("P51 beyond 64 bits", () -> far.checksum(0), wide);
    }

    private static void zeroShare() {
        Meshquiver x = Check.quiver(2, 0, 1, 1, 0);
        Check.module(x, 1, 3);
        Check.due("P52 all of them", () -> x.zeroShare(0), 1.0f);
        x.entry(0, 0, 1, 0, 1);
        x.entry(0, 1, 0, 1, 3);
        Check.due("P52 four of six", () -> x.zeroShare(0), 4.0f / 6.0f);
        x.entry(0, 1, 0, 1, 2);
        Check.due("P52 2 is 0 modulo 2", () -> x.zeroShare(0), 5.0f / 6.0f);
        x.simple(0);
        Check.due("P52 no numbers", () -> x.zeroShare(1), NONE);
        Check.due("P52 no such module", () -> x.zeroShare(2), IOOBE);
        Check.due("P52 no such module", () -> x.zeroShare(-1), IOOBE);
    }

    private static void meanDimension() {
        Meshquiver x = Check.quiver(2, 0, 1);
        Check.due("P53 none", () -> x.meanDimension(), NONE);
        Check.module(x, 0, 0);
        Check.due("P53 of 0", () -> x.meanDimension(), 0.0);
        Check.module(x, 3, 1);
        x.simple(1);
        Check.due("P53 five by three", () -> x.meanDimension(), 5.0 / 3.0);
        x.clearModules();
        Check.due("P53 none again", () -> x.meanDimension(), NONE);
    }

    private static void isConsistent() {
        Meshquiver x = Check.quiver(3, 0, 1, 1, 2);
        Check.module(x, 1, 2, 1);
        Check.fill(x, 0, 0, 1, 1, 1);
        Check.fill(x, 0, 1, 2, 1, 0);
        x.projective(0);
        x.turn(1);
        Check.due("P54 a row with modules", () -> x.isConsistent(), true);
        Meshquiver wide = Check.quiver(1, 0, 0, 0, 0);
        Check.module(wide, 4);
        Check.due("P54 not finite", () -> wide.isConsistent(), true);
        Meshquiver high = Check.quiver(5, 0, 1, 0, 1, 1, 2, 0, 3, 0, 3, 3, 4, 0, 4);
        Check.module(high, 4, 0, 0, 0, 0);
        Check.module(high, 3, 0, 0, 0, 1);
        Check.due("P54 a cover of 40", () -> high.isConsistent(), true);
        Meshquiver broken = Check.quiver(1, 0, 0);
        Check.type(broken, 0, 0);
        broken.zero();
        Check.module(broken, 2);
        broken.entry(0, 0, 0, 0, 1);
        Check.due("P54 relations do not hold", () -> broken.isConsistent(), true);
        Check.due("P54 a branch of five", () -> Check.quiver(5, 0, 1, 1, 2, 2, 3, 4, 2).isConsistent(), true);
        Check.due("P54 nothing", () -> new Meshquiver().isConsistent(), true);
    }
}
