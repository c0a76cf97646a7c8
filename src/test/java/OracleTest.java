import java.util.ArrayList;
import java.util.List;

/**
 * Runs of calls by a fixed row of pseudo-random numbers, on the class and on the reference; each
 * answer and each exception must be the same. State after a throwing call is looked at by the way:
 * the reference tests before it changes, and later answers would part.
 */
public final class OracleTest {
    private static long state;
    private static Meshquiver x;
    private static Reference y;
    private static final List<String> LOG = new ArrayList<>();
    private static int run;
    private static int calls;

    private static int below(int bound) {
        state = state * 6364136223846793005L + 1442695040888963407L;
        return (int) ((state >>> 33) % bound);
    }

    private static boolean chance(int percent) {
        return below(100) < percent;
    }

    private static void both(String name, Check.Call one, Check.Call two) {
        calls++;
        String due = Check.told(two);
        String got = Check.told(one);
        LOG.add(name + " -> " + due);
        if (!got.equals(due) || due.contains("Error")) {
            System.out.println("run " + run + ":");
            LOG.forEach(row -> System.out.println("  " + row));
        }
        Check.due("run " + run + ": " + name, () -> got, due);
    }

    private static final int[] STRANGE = {Integer.MIN_VALUE, Integer.MIN_VALUE + 1, -1, 31, 32, 63, 64,
        1 << 16, 1 << 30, Integer.MAX_VALUE - 1, Integer.MAX_VALUE};

    /** An index that is there, mostly; now and then one just beyond, or one far away. */
    private static int index(int count) {
        if (chance(1)) {
            return STRANGE[below(STRANGE.length)];
        }
        return chance(2) ? below(count + 4) - 2 : below(Math.max(1, count));
    }

    private static int vertex() {
        return index(y.n);
    }

    private static int arrow() {
        return index(y.arrows.size());
    }

    private static int mod() {
        return index(y.mods.size());
    }

    private static int root() {
        return index(chance(20) ? 24 : 12);
    }

    private static void type(int number) {
        both("type(" + number + ")", () -> x.type(number), () -> y.type(number));
    }

    private static void clearRow() {
        both("clearRow()", () -> x.clearRow(), () -> y.clearRow());
    }

    private static void addVertex() {
        both("vertex()", () -> x.vertex(), () -> y.vertex());
    }

    private static void addArrow(int u, int w) {
        both("arrow(" + u + ", " + w + ")", () -> x.arrow(u, w), () -> y.arrow(u, w));
    }

    /** Types a path that goes somewhere, mostly. */
    private static void typePath(int length) {
        clearRow();
        int at = -1;
        for (int i = 0; i < length; i++) {
            List<Integer> next = new ArrayList<>();
            for (int a = 0; a < y.arrows.size(); a++) {
                if (at < 0 || y.fromOf(a) == at) {
                    next.add(a);
                }
            }
            int a = next.isEmpty() || chance(3) ? index(8) : next.get(below(next.size()));
            type(a);
            at = y.isA(a) ? y.toOf(a) : -1;
        }
    }

    private static void typeWalk(int start, int length) {
        clearRow();
        int at = start;
        int last = 0;
        for (int i = 0; i < length; i++) {
            List<Integer> next = new ArrayList<>();
            for (int a = 0; a < y.arrows.size(); a++) {
                if (y.fromOf(a) == at && (a + 1 != -last || chance(5))) {
                    next.add(a + 1);
                }
                if (y.toOf(a) == at && (-a - 1 != -last || chance(5))) {
                    next.add(-a - 1);
                }
            }
            int s = next.isEmpty() || chance(3) ? below(19) - 9 : next.get(below(next.size()));
            type(s);
            last = s;
            int a = Math.abs(s) - 1;
            at = a >= 0 && a < y.arrows.size() ? (s > 0 ? y.toOf(a) : y.fromOf(a)) : at;
        }
    }

    private static void zero() {
        typePath(chance(80) ? 2 : 1 + below(5));
        both("zero()", () -> x.zero(), () -> y.zero());
    }

    private static void typeDims(int greatest) {
        clearRow();
        int count = chance(4) ? below(7) : y.n;
        for (int v = 0; v < count; v++) {
            type(chance(2) ? below(8) - 2 : below(greatest + 1));
        }
    }

    private static void randomModule() {
        int style = below(7);
        if (style <= 2) {
            typeDims(1 + below(4));
            both("module()", () -> x.module(), () -> y.module());
            int m = y.mods.size() - 1;
            for (int k = 0; m >= 0 && k < 3 + below(20); k++) {
                int a = arrow();
                if (y.isA(a)) {
                    entry(m, a, y.mods.get(m).dims[y.toOf(a)], y.mods.get(m).dims[y.fromOf(a)]);
                }
            }
        } else if (style == 3) {
            int v = vertex();
            both("projective(" + v + ")", () -> x.projective(v), () -> y.projective(v));
        } else if (style == 4) {
            int v = vertex();
            both("injective(" + v + ")", () -> x.injective(v), () -> y.injective(v));
        } else if (style == 5) {
            int v = vertex();
            typeWalk(v, below(7));
            both("string(" + v + ")", () -> x.string(v), () -> y.string(v));
        } else if (chance(30)) {
            int v = vertex();
            both("simple(" + v + ")", () -> x.simple(v), () -> y.simple(v));
        } else {
            int m = mod();
            int o = mod();
            both("sum(" + m + ", " + o + ")", () -> x.sum(m, o), () -> y.sum(m, o));
        }
    }

    private static void entry(int m, int a, int rows, int columns) {
        int r = index(rows);
        int c = index(columns);
        int value = chance(2) ? index(15) : below(5) - 1;
        both("entry(" + m + ", " + a + ", " + r + ", " + c + ", " + value + ")",
                () -> x.entry(m, a, r, c, value), () -> y.entry(m, a, r, c, value));
        both("entryAt", () -> x.entryAt(m, a, r, c), () -> y.entryAt(m, a, r, c));
    }

    private static void askModule() {
        int m = mod();
        int o = mod();
        int v = vertex();
        int a = arrow();
        String of = "(" + m + ", " + v + ")";
        String with = "(" + m + ", " + o + ")";
        switch (below(24)) {
            case 0 -> both("dimension" + of, () -> x.dimension(m, v), () -> y.dimension(m, v));
            case 1 -> both("rank(" + m + ", " + a + ")", () -> x.rank(m, a), () -> y.rank(m, a));
            case 2 -> both("top" + of, () -> x.top(m, v), () -> y.top(m, v));
            case 3 -> both("socle" + of, () -> x.socle(m, v), () -> y.socle(m, v));
            case 4 -> both("layers(" + m + ")", () -> x.layers(m), () -> y.layers(m));
            case 5 -> both("maps" + with, () -> x.maps(m, o), () -> y.maps(m, o));
            case 6 -> both("areAlike" + with, () -> x.areAlike(m, o), () -> y.areAlike(m, o));
            case 7 -> both("pieces(" + m + ")", () -> x.pieces(m), () -> y.pieces(m));
            case 8, 9 -> {
                int i = index(4);
                both("piece(" + m + ", " + i + ", " + v + ")", () -> x.piece(m, i, v), () -> y.piece(m, i, v));
            }
            case 10, 11 -> {
                int t = chance(25) ? index(7) : index(4);
                both("syzygy(" + m + ", " + t + ", " + v + ")",
                        () -> x.syzygy(m, t, v), () -> y.syzygy(m, t, v));
            }
            case 12, 13 -> both("extensions" + with, () -> x.extensions(m, o), () -> y.extensions(m, o));
            case 14 -> both("resolution(" + m + ")", () -> x.resolution(m), () -> y.resolution(m));
            case 15, 16 -> {
                typeDims(2);
                both("submodules(" + m + ")", () -> x.submodules(m), () -> y.submodules(m));
            }
            case 17 -> both("stability(" + m + ")", () -> x.stability(m), () -> y.stability(m));
            case 18 -> {
                int s = index(3);
                both("filtration(" + m + ", " + s + ", " + v + ")",
                        () -> x.filtration(m, s, v), () -> y.filtration(m, s, v));
            }
            case 19 -> {
                int w = vertex();
                both("bars(" + m + ", " + v + ", " + w + ")", () -> x.bars(m, v, w), () -> y.bars(m, v, w));
            }
            case 20 -> both("holds(" + m + ")", () -> x.holds(m), () -> y.holds(m));
            case 21 -> both("checksum(" + m + ")", () -> x.checksum(m), () -> y.checksum(m));
            case 22 -> both("zeroShare(" + m + ")", () -> x.zeroShare(m), () -> y.zeroShare(m));
            default -> both("meanDimension()", () -> x.meanDimension(), () -> y.meanDimension());
        }
    }

    private static void askQuiver() {
        int i = root();
        int j = root();
        int v = vertex();
        int w = vertex();
        switch (below(17)) {
            case 0 -> both("kind()", () -> x.kind(), () -> y.kind());
            case 1 -> both("roots()", () -> x.roots(), () -> y.roots());
            case 2 -> both("root(" + i + ", " + v + ")", () -> x.root(i, v), () -> y.root(i, v));
            case 3 -> both("orbit(" + i + ")", () -> x.orbit(i), () -> y.orbit(i));
            case 4 -> both("translate(" + i + ")", () -> x.translate(i), () -> y.translate(i));
            case 5 -> {
                boolean e = chance(50);
                both("between(" + i + ", " + j + ", " + e + ")",
                        () -> x.between(i, j, e), () -> y.between(i, j, e));
            }
            case 6 -> both("mesh(" + i + ", " + j + ")", () -> x.mesh(i, j), () -> y.mesh(i, j));
            case 7 -> both("tilting()", () -> x.tilting(), () -> y.tilting());
            case 8, 9 -> askTilting();
            case 10 -> turn();
            case 11 -> both("turned(" + v + ", " + w + ")", () -> x.turned(v, w), () -> y.turned(v, w));
            case 12 -> both("frieze(" + v + ")", () -> x.frieze(v), () -> y.frieze(v));
            case 13 -> both("paths(" + v + ", " + w + ")", () -> x.paths(v, w), () -> y.paths(v, w));
            case 14 -> both("isFinite()", () -> x.isFinite(), () -> y.isFinite());
            case 15 -> {
                weight(v);
            }
            default -> {
                clearRow();
                int count = chance(5) ? below(9) : y.n == 5 ? 5 : 2 * y.n;
                for (int k = 0; k < count; k++) {
                    type(below(19) - 9);
                }
                both("form()", () -> x.form(), () -> y.form());
            }
        }
    }

    private static void weight(int v) {
        int number = chance(5) ? index(20) : below(19) - 9;
        both("weight(" + v + ", " + number + ")", () -> x.weight(v, number), () -> y.weight(v, number));
    }

    private static void turn() {
        int v = vertex();
        int w = vertex();
        both("turn(" + v + ")", () -> x.turn(v), () -> y.turn(v));
        both("turned(" + v + ", " + w + ")", () -> x.turned(v, w), () -> y.turned(v, w));
        both("frieze(" + v + ")", () -> x.frieze(v), () -> y.frieze(v));
    }

    /** Mutates a tilting set that is found first, as most sets are none. */
    private static void askTilting() {
        int set = chance(10) ? index(1 << 20) : 0;
        if (Check.told(() -> y.roots()).startsWith("throws")) {
            set = below(100);
        } else if (set == 0) {
            int skip = below(8);
            for (int s = 1; s < 1 << y.roots(); s++) {
                if (Integer.bitCount(s) == y.n && y.tiltingSet(s)) {
                    set = s;
                    if (skip-- == 0) {
                        break;
                    }
                }
            }
        }
        int told = set;
        both("isTilting(" + told + ")", () -> x.isTilting(told), () -> y.isTilting(told));
        int i = chance(20) ? root() : Integer.numberOfTrailingZeros(told);
        both("mutate(" + told + ", " + i + ")", () -> x.mutate(told, i), () -> y.mutate(told, i));
        int k = 31 - Integer.numberOfLeadingZeros(told);
        both("mutate(" + told + ", " + k + ")", () -> x.mutate(told, k), () -> y.mutate(told, k));
    }

    private static void build() {
        int style = below(4);
        int n = chance(10) ? below(7) : 1 + below(5);
        for (int v = 0; v < n; v++) {
            addVertex();
        }
        if (style == 0) {
            for (int v = 0; v + 1 < n; v++) {
                addArrow(chance(50) ? v : v + 1, v);
            }
        } else if (style == 1) {
            for (int v = 0; v + 1 < n; v++) {
                boolean up = chance(50);
                addArrow(up ? v : v + 1, up ? v + 1 : v);
            }
        } else if (style == 2) {
            for (int v = 1; v < n; v++) {
                int u = below(v);
                boolean up = chance(50);
                addArrow(up ? u : v, up ? v : u);
            }
            if (chance(20)) {
                addArrow(vertex(), vertex());
            }
        } else {
            int count = below(9);
            for (int k = 0; k < count; k++) {
                addArrow(vertex(), vertex());
            }
        }
        int zeros = style == 3 ? below(7) : chance(30) ? below(3) : 0;
        for (int k = 0; k < zeros; k++) {
            zero();
        }
        int prime = chance(10) ? index(9) : new int[] {2, 2, 3, 5}[below(4)];
        both("field(" + prime + ")", () -> x.field(prime), () -> y.field(prime));
    }

    private static void play() {
        x = new Meshquiver();
        y = new Reference();
        LOG.clear();
        build();
        for (int v = 0; v < y.n && chance(60); v++) {
            weight(v);
        }
        for (int k = chance(20) ? 25 : 0; k > 0; k--) {
            turn();
        }
        int goal = 1 + below(9);
        for (int k = 0; k < goal; k++) {
            randomModule();
        }
        for (int k = 0; k < 60; k++) {
            int choice = below(100);
            if (choice < 62) {
                askModule();
            } else if (choice < 85) {
                askQuiver();
            } else if (choice < 93) {
                randomModule();
            } else if (choice < 95) {
                addVertex();
            } else if (choice < 97) {
                addArrow(vertex(), vertex());
            } else if (choice < 98) {
                zero();
            } else {
                both("clearModules()", () -> x.clearModules(), () -> y.clearModules());
            }
        }
        both("isConsistent()", () -> x.isConsistent(), () -> true);
    }

    public static void main(String[] args) {
        int runs = args.length > 0 ? Integer.parseInt(args[0]) : 100;
        long seed = args.length > 1 ? Long.parseLong(args[1]) : 1;
        for (run = 0; run < runs && Check.wrongSoFar() == 0; run++) {
            state = seed * 1000003L + run;
            below(10);
            play();
        }
        System.out.println(runs + " runs, " + calls + " calls");
        Check.finish();
    }
}
