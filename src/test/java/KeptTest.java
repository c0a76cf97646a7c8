/** What a house keeps from call to call must go as soon as what it was found from changes. */
public final class KeptTest {
    private static final String UOE = "throws.UnsupportedOperationException";
    private static final String NSEE = "throws.NoSuchElementException";

    public static void main(String[] args) {
        behindClearModules();
        behindEntries();
        betweenModules();
        barsBetweenModules();
        behindWeights();
        weightsThatStay();
        behindSubmodules();
        behindFields();
        rootsOfGrowingQuivers();
        pathsOfGrowingQuivers();
        behindFailures();
        Check.finish();
    }

    private static String pieces(Meshquiver x, int module, int vertices) {
        StringBuilder text = new StringBuilder();
        for (int i = 0; i < x.pieces(module); i++) {
            text.append(i > 0 ? " " : "");
            for (int v = 0; v < vertices; v++) {
                text.append(x.piece(module, i, v));
            }
        }
        return text.toString();
    }

    private static String steps(Meshquiver x, int module, int vertices) {
        StringBuilder text = new StringBuilder();
        for (int i = 0; i < 10; i++) {
            int step = i;
            if (Check.told(() -> x.filtration(module, step, 0)).equals(NSEE)) {
                break;
            }
            text.append(i > 0 ? " " : "");
            for (int v = 0; v < vertices; v++) {
                text.append(x.filtration(module, i, v));
            }
        }
        return text.toString();
    }

    /** The module of the same number is another one then; nothing else is called between. */
    private static void behindClearModules() {
        Meshquiver x = Check.quiver(2, 0, 1);
        x.weight(0, 1);
        x.projective(0);
        Check.due("a projective one", () -> pieces(x, 0, 2), "11");
        x.clearModules();
        Check.module(x, 2, 1);
        Check.due("pieces of another one", () -> pieces(x, 0, 2), "01 10 10");
        Check.due("bars of it", () -> x.bars(0, 0, 1), 0);
        x.clearModules();
        x.projective(0);
        Check.due("bars of a projective one", () -> x.bars(0, 0, 1), 1);
        Check.due("it is stable", () -> x.stability(0), 's');
        x.clearModules();
        Check.module(x, 1, 1);
        Check.due("another one is not", () -> x.stability(0), 'u');
        x.clearModules();
        x.projective(0);
        Check.due("one step", () -> steps(x, 0, 2), "11");
        x.clearModules();
        Check.module(x, 1, 1);
        Check.due("two steps of another one", () -> steps(x, 0, 2), "10 01");
        x.clearModules();
        Check.module(x, 0, 0);
        Check.due("no step of 0", () -> steps(x, 0, 2), "");
        Check.due("no piece of 0", () -> pieces(x, 0, 2), "");
        x.clearModules();
        x.simple(0);
        Check.due("pieces of a simple one", () -> pieces(x, 0, 2), "10");
        x.clearModules();
        x.arrow(0, 1);
        Check.module(x, 1, 1);
        x.entry(0, 1, 0, 0, 1);
        Check.due("pieces when there is an arrow more", () -> pieces(x, 0, 2), "11");
    }

    private static void behindEntries() {
        Meshquiver x = Check.quiver(2, 0, 1);
        Check.module(x, 2, 2);
        Check.module(x, 1, 1);
        x.weight(0, 1);
        String[] split = {"01 01 10 10", "01 10 11", "11 11"};
        String[] slope = {"20 02", "10 11 01", "22"};
        for (int i = 0; i < 3; i++) {
            int n = i;
            Check.due("pieces by entries", () -> pieces(x, 0, 2), split[n]);
            Check.due("steps by entries", () -> steps(x, 0, 2), slope[n]);
            Check.due("the other module", () -> pieces(x, 1, 2), n == 0 ? "01 10" : "11");
            Check.due("its steps", () -> steps(x, 1, 2), n == 0 ? "10 01" : "11");
            if (i < 2) {
                x.entry(0, 0, i, i, 1);
                x.entry(1, 0, 0, 0, 1);
            }
        }
    }

    private static void betweenModules() {
        Meshquiver x = Check.quiver(3, 0, 1, 1, 2);
        x.projective(0);
        x.simple(1);
        x.sum(0, 1);
        x.weight(1, 3);
        for (int round = 0; round < 3; round++) {
            Check.due("pieces of 0", () -> pieces(x, 0, 3), "111");
            Check.due("pieces of 2", () -> pieces(x, 2, 3), "010 111");
            Check.due("steps of 2", () -> steps(x, 2, 3), "010 011 100");
            Check.due("steps of 1", () -> steps(x, 1, 3), "010");
            Check.due("of 2 it is u", () -> x.stability(2), 'u');
            Check.due("of 1 it is s", () -> x.stability(1), 's');
            Check.due("alike between", () -> x.areAlike(0, 2), false);
            Check.due("maps between", () -> x.maps(2, 2), 2);
            Check.due("syzygies between", () -> x.syzygy(2, 1, 2), 1);
            Check.due("consistent between", () -> x.isConsistent(), true);
        }
    }

    /** Pieces of another module that were more must not be counted with those of this one. */
    private static void barsBetweenModules() {
        Meshquiver x = Check.quiver(2, 0, 1);
        Check.module(x, 2, 2);
        x.projective(0);
        x.simple(1);
        Check.module(x, 0, 0);
        for (int round = 0; round < 2; round++) {
            Check.due("four bars", () -> x.bars(0, 0, 0) * 10 + x.bars(0, 1, 1), 22);
            Check.due("one long bar", () -> x.bars(1, 0, 1), 1);
            Check.due("no short one at 0", () -> x.bars(1, 0, 0), 0);
            Check.due("no short one at 1", () -> x.bars(1, 1, 1), 0);
            Check.due("four bars again", () -> x.bars(0, 0, 0) * 10 + x.bars(0, 1, 1), 22);
            Check.due("one short bar", () -> x.bars(2, 1, 1), 1);
            Check.due("and none at 0", () -> x.bars(2, 0, 0), 0);
            Check.due("four bars once more", () -> x.pieces(0), 4);
            Check.due("none of 0", () -> x.bars(3, 0, 0) + x.bars(3, 1, 1) + x.bars(3, 0, 1), 0);
        }
    }

    private static void behindWeights() {
        Meshquiver y = Check.quiver(5);
        Check.module(y, 2, 2, 2, 2, 2);
        for (int weight : new int[] {9, -9, 0, 9, -1}) {
            for (int v = 0; v < 5; v++) {
                y.weight(v, weight);
            }
            Check.due("all slopes alike, weight " + weight, () -> y.stability(0), 'm');
            Check.due("one step", () -> steps(y, 0, 5), "22222");
            y.weight(4, weight - (weight > 0 ? 1 : -1));
            Check.due("one is unlike", () -> y.stability(0), 'u');
            Check.due("two steps", () -> steps(y, 0, 5), weight > 0 ? "22220 00002" : "00002 22220");
        }
    }

    /** Weights stay, whatever is added; a new vertex has 0. */
    private static void weightsThatStay() {
        Meshquiver x = Check.quiver(1);
        Check.due("0 at first", () -> x.weight(0, 9), 0);
        x.vertex();
        x.arrow(0, 1);
        x.simple(0);
        x.turn(0);
        x.clearModules();
        x.field(3);
        Check.due("0 at first at a new vertex", () -> x.weight(1, -9), 0);
        Check.due("kept at the other", () -> x.weight(0, 0), 9);
        Check.due("0 is a weight as any other", () -> x.weight(0, -9), 0);
        Check.due("-9 and -9", () -> x.weight(0, -9), -9);
        Check.due("kept at the new one", () -> x.weight(1, 9), -9);
    }

    /** Counting submodules goes the same ways as slopes do, with other dimensions. */
    private static void behindSubmodules() {
        Meshquiver x = Check.quiver(2, 0, 1);
        x.projective(0);
        x.weight(1, 1);
        Check.type(x, 1, 1);
        Check.due("itself", () -> x.submodules(0), 1);
        Check.due("then its slopes", () -> x.stability(0), 'u');
        Check.type(x, 0, 0);
        Check.due("the one that is 0", () -> x.submodules(0), 1);
        Check.due("then its steps", () -> steps(x, 0, 2), "01 10");
        x.weight(1, -1);
        Check.type(x, 5, 0);
        Check.due("none", () -> x.submodules(0), 0);
        Check.due("then its slopes again", () -> x.stability(0), 's');
        Check.due("then one step", () -> steps(x, 0, 2), "11");
        Check.type(x, 0, 1);
        Check.due("the one that is simple", () -> x.submodules(0), 1);
        Check.type(x, 1, 0);
        Check.due("the one that is none", () -> x.submodules(0), 0);
    }

    private static void behindFields() {
        // Once round: x squared is -1, which 2 is in 5, and nothing in 3; in 2 the square of x and 1 is 0.
        String[] due = {"2", "2", "1 1"};
        int[] primes = {2, 3, 5};
        Meshquiver x = Check.quiver(1, 0, 0);
        for (int i = 0; i < 3; i++) {
            int n = i;
            x.field(primes[i]);
            Check.module(x, 2);
            Check.fill(x, 0, 0, 2, 0, -1, 1, 0);
            Check.due("pieces over " + primes[i], () -> pieces(x, 0, 1), due[n]);
            Check.type(x, 1);
            Check.due("lines over " + primes[i], () -> x.submodules(0), n == 0 ? 1 : n == 1 ? 0 : 2);
            x.clearModules();
        }
    }

    private static void rootsOfGrowingQuivers() {
        Meshquiver x = new Meshquiver();
        x.vertex();
        int[][] due = {{1, 1}, {3, 2}, {6, 5}, {12, 20}, {20, 77}};
        int[][] arrows = {{1, 0}, {0, 2}, {3, 0}, {3, 4}};
        for (int i = 0; i < 5; i++) {
            int n = i;
            Check.due("roots", () -> x.roots(), due[n][0]);
            Check.due("tilting sets", () -> x.tilting(), due[n][1]);
            Check.due("the last root has no other behind", () -> x.root(due[n][0], 0), NSEE);
            Check.due("kind", () -> x.kind(), 'f');
            if (i < 4) {
                x.vertex();
                Check.due("not connected", () -> x.kind(), UOE);
                Check.due("no roots", () -> x.roots(), UOE);
                Check.due("no tilting sets", () -> x.isTilting(1), UOE);
                x.arrow(arrows[i][0], arrows[i][1]);
            }
        }
        int later = 0;
        for (int i = 0; i < 20; i++) {
            later += x.orbit(i) / 10;
        }
        int all = later;
        // Three orbits have four roots each; of 1 and 2, on the way 1 0 2, one has three and one five.
        Check.due("all times together", () -> all, 3 * 6 + 3 + 10);
        x.arrow(1, 2);
        Check.due("a ring with a tail is wild", () -> x.kind(), 'w');
        Check.due("and has no roots", () -> x.translate(0), UOE);
        Meshquiver y = Check.quiver(2, 0, 1);
        Check.due("f", () -> y.kind(), 'f');
        y.arrow(0, 1);
        Check.due("then t", () -> y.kind(), 't');
        y.arrow(0, 1);
        Check.due("then w", () -> y.kind(), 'w');
        y.arrow(1, 0);
        Check.due("then a cycle", () -> y.kind(), UOE);
        Meshquiver z = Check.quiver(3, 0, 1, 1, 2);
        Check.due("before a zero path", () -> z.tilting(), 5);
        Check.type(z, 0, 1);
        z.zero();
        Check.due("behind a zero path", () -> z.tilting(), UOE);
    }

    private static void pathsOfGrowingQuivers() {
        Meshquiver x = Check.quiver(2, 0, 1, 1, 0);
        Check.due("round and round", () -> x.isFinite(), false);
        Check.type(x, 0, 1);
        x.zero();
        Check.due("not from 0 to 0", () -> x.isFinite(), true);
        Check.due("from 1 to 1", () -> x.paths(1, 1), 2);
        x.projective(1);
        Check.due("built of these", () -> Check.dims(x, 0, 2), "12");
        x.clearModules();
        Check.type(x, 1, 0);
        x.zero();
        Check.due("not from 1 to 1 either", () -> x.paths(1, 1), 1);
        x.projective(1);
        Check.due("built anew", () -> Check.dims(x, 0, 2), "11");
        x.clearModules();
        x.arrow(1, 0);
        Check.due("another way back", () -> x.isFinite(), false);
        Check.type(x, 2, 0);
        x.zero();
        Check.due("which ends too", () -> x.isFinite(), true);
        Check.due("two ways back", () -> x.paths(1, 0), 2);
        Check.due("0 and then 2", () -> x.paths(0, 0), 2);
        x.vertex();
        Check.due("a vertex more", () -> x.paths(2, 2), 1);
        x.arrow(0, 2);
        Check.due("behind 1 and 2", () -> x.paths(1, 2), 2);
    }

    /** What throws keeps nothing of what it looked at. */
    private static void behindFailures() {
        Meshquiver x = Check.quiver(2, 0, 1);
        Check.module(x, 1, 1);
        x.entry(0, 0, 0, 0, 1);
        Check.module(x, 4, 4);
        x.weight(1, 1);
        Check.due("pieces of 0", () -> pieces(x, 0, 2), "11");
        Check.due("too many maps of 1", () -> Check.told(() -> x.pieces(1)), "throws.IllegalStateException");
        Check.due("pieces of 0 again", () -> pieces(x, 0, 2), "11");
        Check.due("too many maps of 1 again", () -> Check.told(() -> x.piece(1, 0, 0)), "throws.IllegalStateException");
        x.clearModules();
        x.field(5);
        Check.module(x, 1, 1);
        x.entry(0, 0, 0, 0, 1);
        Check.module(x, 4, 3);
        Check.due("steps of 0", () -> steps(x, 0, 2), "01 10");
        Check.due("too many ways of 1", () -> Check.told(() -> x.stability(1)), "throws.IllegalStateException");
        Check.due("steps of 0 again", () -> steps(x, 0, 2), "01 10");
        Check.due("0 is u still", () -> x.stability(0), 'u');
        Check.due("too many ways of 1 again", () -> Check.told(() -> x.filtration(1, 0, 0)),
                "throws.IllegalStateException");
    }
}
