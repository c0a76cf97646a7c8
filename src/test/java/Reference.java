import java.math.BigInteger;
import java.util.ArrayList;
import java.util.Arrays;
import java.util.BitSet;
import java.util.Collections;
import java.util.Comparator;
import java.util.LinkedHashSet;
import java.util.List;
import java.util.NoSuchElementException;
import java.util.Set;

/**
 * The document once more, by its definitions word by word and with no thought of speed: pieces by
 * idempotents, extensions by blocks that satisfy the relations, submodules by sets of vectors,
 * filtrations by quotients. It is written apart from the class, so that both can be held together.
 */
final class Reference {
    static final class Mod {
        int[] dims;
        int[][][] mats;

        int total() {
            return Arrays.stream(dims).sum();
        }
    }

    int n = 0;
    final List<int[]> arrows = new ArrayList<>();
    final List<List<Integer>> told = new ArrayList<>();
    int p = 2;
    final List<Integer> typed = new ArrayList<>();
    final List<Mod> mods = new ArrayList<>();
    final int[] weights = new int[5];
    int[][] b = new int[0][0];
    BigInteger[] friezes = new BigInteger[0];
    private List<List<Integer>> pathList = null;
    private List<Integer> pathStarts = null;
    private boolean bounded;
    private List<int[]> rootList = null;
    private char kindFound;

    // ---- helpers

    static void when(boolean bad, RuntimeException e) {
        if (bad) {
            throw e;
        }
    }

    boolean isV(int v) {
        return v >= 0 && v < n;
    }

    boolean isA(int a) {
        return a >= 0 && a < arrows.size();
    }

    boolean isM(int m) {
        return m >= 0 && m < mods.size();
    }

    int fromOf(int a) {
        return arrows.get(a)[0];
    }

    int toOf(int a) {
        return arrows.get(a)[1];
    }

    boolean isZeroRow(List<Integer> path) {
        for (List<Integer> z : told) {
            if (Collections.indexOfSubList(path, z) >= 0) {
                return true;
            }
        }
        return false;
    }

    int endOf(int start, List<Integer> path) {
        return path.isEmpty() ? start : toOf(path.get(path.size() - 1));
    }

    void findPaths() {
        if (pathList != null) {
            return;
        }
        pathList = new ArrayList<>();
        pathStarts = new ArrayList<>();
        bounded = true;
        for (int v = 0; v < n; v++) {
            pathList.add(List.of());
            pathStarts.add(v);
        }
        for (int i = 0; i < pathList.size(); i++) {
            for (int a = 0; a < arrows.size(); a++) {
                if (fromOf(a) == endOf(pathStarts.get(i), pathList.get(i))) {
                    List<Integer> longer = new ArrayList<>(pathList.get(i));
                    longer.add(a);
                    if (!isZeroRow(longer)) {
                        pathList.add(longer);
                        pathStarts.add(pathStarts.get(i));
                    }
                }
            }
            if (pathList.size() > 60) {
                bounded = false;
                return;
            }
        }
    }

    boolean boundedPaths() {
        findPaths();
        return bounded;
    }

    /** The paths from one vertex to another, by length, then by arrows. */
    List<List<Integer>> pathsBetween(int u, int w) {
        findPaths();
        List<List<Integer>> result = new ArrayList<>();
        for (int i = 0; i < pathList.size(); i++) {
            if (pathStarts.get(i) == u && endOf(u, pathList.get(i)) == w) {
                result.add(pathList.get(i));
            }
        }
        result.sort((x, y) -> {
            if (x.size() != y.size()) {
                return x.size() - y.size();
            }
            for (int i = 0; i < x.size(); i++) {
                if (!x.get(i).equals(y.get(i))) {
                    return x.get(i) - y.get(i);
                }
            }
            return 0;
        });
        return result;
    }

    boolean dimsFit(int[] d) {
        int sum = 0;
        for (int x : d) {
            if (x < 0 || x > 4) {
                return false;
            }
            sum += x;
        }
        return sum <= 10;
    }

    Mod blank(int[] d) {
        Mod m = new Mod();
        m.dims = d.clone();
        m.mats = new int[arrows.size()][][];
        for (int a = 0; a < arrows.size(); a++) {
            m.mats[a] = new int[d[toOf(a)]][d[fromOf(a)]];
        }
        return m;
    }

    int[][] mul(int[][] x, int[][] y, int rows, int inner, int cols) {
        int[][] r = new int[rows][cols];
        for (int i = 0; i < rows; i++) {
            for (int j = 0; j < cols; j++) {
                int s = 0;
                for (int k = 0; k < inner; k++) {
                    s += x[i][k] * y[k][j];
                }
                r[i][j] = s % p;
            }
        }
        return r;
    }

    int[] app(int[][] x, int[] v) {
        int[] r = new int[x.length];
        for (int i = 0; i < x.length; i++) {
            int s = 0;
            for (int k = 0; k < v.length; k++) {
                s += x[i][k] * v[k];
            }
            r[i] = s % p;
        }
        return r;
    }

    int inv(int x) {
        for (int y = 1; y < p; y++) {
            if (x * y % p == 1) {
                return y;
            }
        }
        throw new AssertionError();
    }

    /** A basis of what the rows span, in steps. */
    List<int[]> basisOf(List<int[]> rows) {
        List<int[]> left = new ArrayList<>();
        for (int[] r : rows) {
            left.add(r.clone());
        }
        List<int[]> basis = new ArrayList<>();
        int width = rows.isEmpty() ? 0 : rows.get(0).length;
        for (int c = 0; c < width; c++) {
            int[] pivot = null;
            for (int[] r : left) {
                if (r[c] != 0) {
                    pivot = r;
                    break;
                }
            }
            if (pivot == null) {
                continue;
            }
            left.remove(pivot);
            int f = inv(pivot[c]);
            for (int k = 0; k < width; k++) {
                pivot[k] = pivot[k] * f % p;
            }
            for (List<int[]> group : List.of(left, basis)) {
                for (int[] r : group) {
                    int g = r[c];
                    for (int k = 0; k < width && g != 0; k++) {
                        r[k] = Math.floorMod(r[k] - g * pivot[k], p);
                    }
                }
            }
            basis.add(pivot);
        }
        return basis;
    }

    int rk(List<int[]> rows) {
        return basisOf(rows).size();
    }

    /** The solutions x of rows times x being 0. */
    List<int[]> kernelOf(List<int[]> rows, int width) {
        List<int[]> basis = basisOf(rows);
        int[] lead = new int[basis.size()];
        boolean[] isLead = new boolean[width];
        for (int i = 0; i < basis.size(); i++) {
            while (basis.get(i)[lead[i]] == 0) {
                lead[i]++;
            }
            isLead[lead[i]] = true;
        }
        List<int[]> result = new ArrayList<>();
        for (int c = 0; c < width; c++) {
            if (!isLead[c]) {
                int[] x = new int[width];
                x[c] = 1;
                for (int i = 0; i < basis.size(); i++) {
                    x[lead[i]] = Math.floorMod(-basis.get(i)[c], p);
                }
                result.add(x);
            }
        }
        return result;
    }

    /** Coordinates of a vector by a basis, found by trying to solve. */
    int[] coordinates(List<int[]> basis, int[] v) {
        int size = basis.size();
        List<int[]> rows = new ArrayList<>();
        for (int i = 0; i < v.length; i++) {
            int[] row = new int[size + 1];
            for (int j = 0; j < size; j++) {
                row[j] = basis.get(j)[i];
            }
            row[size] = v[i];
            rows.add(row);
        }
        int[] result = new int[size];
        for (int[] r : basisOf(rows)) {
            int c = 0;
            while (r[c] == 0) {
                c++;
            }
            if (c == size) {
                throw new AssertionError("not within");
            }
            result[c] = r[size];
        }
        return result;
    }

    int[][] pathMatrix(Mod m, List<Integer> path) {
        int d = m.dims[fromOf(path.get(0))];
        int[][] r = new int[d][d];
        for (int i = 0; i < d; i++) {
            r[i][i] = 1;
        }
        for (int a : path) {
            r = mul(m.mats[a], r, m.dims[toOf(a)], m.dims[fromOf(a)], d);
        }
        return r;
    }

    static boolean isNull(int[][] x) {
        for (int[] r : x) {
            for (int y : r) {
                if (y != 0) {
                    return false;
                }
            }
        }
        return true;
    }

    boolean relationsHold(Mod m) {
        for (List<Integer> z : told) {
            if (!isNull(pathMatrix(m, z))) {
                return false;
            }
        }
        return true;
    }

    // ---- quiver and field

    int type(int number) {
        when(number < -9 || number > 9, new IllegalArgumentException());
        when(typed.size() >= 8, new IllegalStateException());
        typed.add(number);
        return typed.size();
    }

    int clearRow() {
        int k = typed.size();
        typed.clear();
        return k;
    }

    void quiverChanged() {
        pathList = null;
        rootList = null;
    }

    void resetCluster() {
        b = new int[n][n];
        for (int[] a : arrows) {
            b[a[0]][a[1]]++;
            b[a[1]][a[0]]--;
        }
        friezes = new BigInteger[n];
        Arrays.fill(friezes, BigInteger.ONE);
    }

    int vertex() {
        when(!mods.isEmpty(), new UnsupportedOperationException());
        when(n >= 5, new IllegalStateException());
        n++;
        quiverChanged();
        resetCluster();
        return n - 1;
    }

    int arrow(int u, int w) {
        when(!isV(u) || !isV(w), new IndexOutOfBoundsException());
        when(!mods.isEmpty(), new UnsupportedOperationException());
        when(arrows.size() >= 7, new IllegalStateException());
        arrows.add(new int[] {u, w});
        quiverChanged();
        resetCluster();
        return arrows.size() - 1;
    }

    int zero() {
        boolean ok = typed.size() >= 2 && typed.size() <= 4;
        for (int i = 0; ok && i < typed.size(); i++) {
            ok = isA(typed.get(i)) && (i == 0 || toOf(typed.get(i - 1)) == fromOf(typed.get(i)));
        }
        when(!ok, new IllegalArgumentException());
        when(!mods.isEmpty(), new UnsupportedOperationException());
        when(told.size() >= 5, new IllegalStateException());
        told.add(new ArrayList<>(typed));
        typed.clear();
        quiverChanged();
        return told.size();
    }

    int field(int prime) {
        when(prime != 2 && prime != 3 && prime != 5, new IllegalArgumentException());
        when(!mods.isEmpty(), new UnsupportedOperationException());
        int before = p;
        p = prime;
        return before;
    }

    boolean isFinite() {
        return boundedPaths();
    }

    int paths(int u, int w) {
        when(!isV(u) || !isV(w), new IndexOutOfBoundsException());
        when(!boundedPaths(), new UnsupportedOperationException());
        return pathsBetween(u, w).size();
    }

    int clearModules() {
        int k = mods.size();
        mods.clear();
        return k;
    }

    // ---- modules

    int add(Mod m) {
        mods.add(m);
        return mods.size() - 1;
    }

    int module() {
        int[] d = typed.stream().mapToInt(x -> x).toArray();
        when(d.length != n || !dimsFit(d), new IllegalArgumentException());
        when(mods.size() >= 12, new IllegalStateException());
        typed.clear();
        return add(blank(d));
    }

    boolean isEntry(int m, int a, int r, int c) {
        return isM(m) && isA(a) && r >= 0 && c >= 0 && r < mods.get(m).dims[toOf(a)]
                && c < mods.get(m).dims[fromOf(a)];
    }

    int entry(int m, int a, int r, int c, int value) {
        when(!isEntry(m, a, r, c), new IndexOutOfBoundsException());
        when(value < -9 || value > 9, new IllegalArgumentException());
        int before = mods.get(m).mats[a][r][c];
        mods.get(m).mats[a][r][c] = Math.floorMod(value, p);
        return before;
    }

    int entryAt(int m, int a, int r, int c) {
        when(!isEntry(m, a, r, c), new IndexOutOfBoundsException());
        return mods.get(m).mats[a][r][c];
    }

    boolean holds(int m) {
        when(!isM(m), new IndexOutOfBoundsException());
        return relationsHold(mods.get(m));
    }

    int simple(int v) {
        when(!isV(v), new IndexOutOfBoundsException());
        when(mods.size() >= 12, new IllegalStateException());
        int[] d = new int[n];
        d[v] = 1;
        return add(blank(d));
    }

    Mod projectiveOf(int v) {
        int[] d = new int[n];
        for (int w = 0; w < n; w++) {
            d[w] = pathsBetween(v, w).size();
        }
        Mod m = blank(d);
        for (int a = 0; a < arrows.size(); a++) {
            List<List<Integer>> here = pathsBetween(v, fromOf(a));
            List<List<Integer>> there = pathsBetween(v, toOf(a));
            for (int j = 0; j < here.size(); j++) {
                List<Integer> longer = new ArrayList<>(here.get(j));
                longer.add(a);
                int i = there.indexOf(longer);
                if (i >= 0) {
                    m.mats[a][i][j] = 1;
                }
            }
        }
        return m;
    }

    int projective(int v) {
        when(!isV(v), new IndexOutOfBoundsException());
        when(!boundedPaths(), new UnsupportedOperationException());
        Mod m = projectiveOf(v);
        when(!dimsFit(m.dims), new UnsupportedOperationException());
        when(mods.size() >= 12, new IllegalStateException());
        return add(m);
    }

    int injective(int v) {
        when(!isV(v), new IndexOutOfBoundsException());
        when(!boundedPaths(), new UnsupportedOperationException());
        int[] d = new int[n];
        for (int w = 0; w < n; w++) {
            d[w] = pathsBetween(w, v).size();
        }
        when(!dimsFit(d), new UnsupportedOperationException());
        when(mods.size() >= 12, new IllegalStateException());
        Mod m = blank(d);
        for (int a = 0; a < arrows.size(); a++) {
            List<List<Integer>> here = pathsBetween(fromOf(a), v);
            List<List<Integer>> there = pathsBetween(toOf(a), v);
            for (int j = 0; j < here.size(); j++) {
                List<Integer> path = here.get(j);
                if (!path.isEmpty() && path.get(0) == a) {
                    m.mats[a][there.indexOf(path.subList(1, path.size()))][j] = 1;
                }
            }
        }
        return add(m);
    }

    int string(int v) {
        when(!isV(v), new IndexOutOfBoundsException());
        List<Integer> places = new ArrayList<>(List.of(v));
        for (int s : typed) {
            int a = Math.abs(s) - 1;
            int at = places.get(places.size() - 1);
            when(!isA(a) || (s > 0 ? fromOf(a) : toOf(a)) != at, new IllegalArgumentException());
            places.add(s > 0 ? toOf(a) : fromOf(a));
        }
        boolean bad = false;
        for (int i = 0; i + 1 < typed.size(); i++) {
            bad |= typed.get(i) + typed.get(i + 1) == 0;
        }
        for (List<Integer> z : told) {
            List<Integer> along = new ArrayList<>();
            List<Integer> against = new ArrayList<>();
            for (int a : z) {
                along.add(a + 1);
                against.add(0, -a - 1);
            }
            bad |= Collections.indexOfSubList(typed, along) >= 0;
            bad |= Collections.indexOfSubList(typed, against) >= 0;
        }
        int[] d = new int[n];
        int[] slot = new int[places.size()];
        for (int i = 0; i < places.size(); i++) {
            slot[i] = d[places.get(i)]++;
        }
        when(bad || !dimsFit(d), new UnsupportedOperationException());
        when(mods.size() >= 12, new IllegalStateException());
        Mod m = blank(d);
        for (int i = 0; i < typed.size(); i++) {
            int s = typed.get(i);
            if (s > 0) {
                m.mats[s - 1][slot[i + 1]][slot[i]] = 1;
            } else {
                m.mats[-s - 1][slot[i]][slot[i + 1]] = 1;
            }
        }
        typed.clear();
        return add(m);
    }

    int sum(int x, int y) {
        when(!isM(x) || !isM(y), new IndexOutOfBoundsException());
        Mod one = mods.get(x);
        Mod two = mods.get(y);
        int[] d = new int[n];
        for (int v = 0; v < n; v++) {
            d[v] = one.dims[v] + two.dims[v];
        }
        when(!dimsFit(d), new UnsupportedOperationException());
        when(mods.size() >= 12, new IllegalStateException());
        return add(blocks(one, two, null));
    }

    /** The module with one and two on the diagonal, and perhaps blocks from two to one. */
    Mod blocks(Mod one, Mod two, int[][][] corner) {
        int[] d = new int[n];
        for (int v = 0; v < n; v++) {
            d[v] = one.dims[v] + two.dims[v];
        }
        Mod m = blank(d);
        for (int a = 0; a < arrows.size(); a++) {
            for (int i = 0; i < d[toOf(a)]; i++) {
                for (int j = 0; j < d[fromOf(a)]; j++) {
                    int r = one.dims[toOf(a)];
                    int c = one.dims[fromOf(a)];
                    if (i < r && j < c) {
                        m.mats[a][i][j] = one.mats[a][i][j];
                    } else if (i >= r && j >= c) {
                        m.mats[a][i][j] = two.mats[a][i - r][j - c];
                    } else if (i < r && corner != null) {
                        m.mats[a][i][j] = corner[a][i][j - c];
                    }
                }
            }
        }
        return m;
    }

    int dimension(int m, int v) {
        when(!isM(m) || !isV(v), new IndexOutOfBoundsException());
        return mods.get(m).dims[v];
    }

    int rank(int m, int a) {
        when(!isM(m) || !isA(a), new IndexOutOfBoundsException());
        return rk(Arrays.asList(mods.get(m).mats[a]));
    }

    List<int[]> columns(int[][] x, int count) {
        List<int[]> result = new ArrayList<>();
        for (int j = 0; j < count; j++) {
            int[] c = new int[x.length];
            for (int i = 0; i < x.length; i++) {
                c[i] = x[i][j];
            }
            result.add(c);
        }
        return result;
    }

    List<int[]> incoming(Mod m, int v) {
        List<int[]> all = new ArrayList<>();
        for (int a = 0; a < arrows.size(); a++) {
            if (toOf(a) == v) {
                all.addAll(columns(m.mats[a], m.dims[fromOf(a)]));
            }
        }
        return all;
    }

    int top(int m, int v) {
        when(!isM(m) || !isV(v), new IndexOutOfBoundsException());
        return mods.get(m).dims[v] - rk(incoming(mods.get(m), v));
    }

    List<int[]> allVectors(int d) {
        List<int[]> result = new ArrayList<>();
        result.add(new int[d]);
        for (int c = 0; c < d; c++) {
            List<int[]> more = new ArrayList<>();
            for (int[] x : result) {
                for (int k = 0; k < p; k++) {
                    int[] y = x.clone();
                    y[c] = k;
                    more.add(y);
                }
            }
            result = more;
        }
        return result;
    }

    /** By counting the vectors that every arrow takes to 0. */
    int socle(int m, int v) {
        when(!isM(m) || !isV(v), new IndexOutOfBoundsException());
        Mod mod = mods.get(m);
        int count = 0;
        for (int[] x : allVectors(mod.dims[v])) {
            boolean dies = true;
            for (int a = 0; a < arrows.size(); a++) {
                dies &= fromOf(a) != v || Arrays.stream(app(mod.mats[a], x)).allMatch(y -> y == 0);
            }
            count += dies ? 1 : 0;
        }
        int d = 0;
        while (count > 1) {
            count /= p;
            d++;
        }
        return d;
    }

    int layers(int m) {
        when(!isM(m), new IndexOutOfBoundsException());
        Mod mod = mods.get(m);
        List<List<int[]>> rad = new ArrayList<>();
        for (int v = 0; v < n; v++) {
            List<int[]> unit = new ArrayList<>();
            for (int i = 0; i < mod.dims[v]; i++) {
                int[] e = new int[mod.dims[v]];
                e[i] = 1;
                unit.add(e);
            }
            rad.add(unit);
        }
        for (int k = 0; k <= 20; k++) {
            if (rad.stream().allMatch(List::isEmpty)) {
                return k;
            }
            List<List<int[]>> next = new ArrayList<>();
            for (int v = 0; v < n; v++) {
                List<int[]> all = new ArrayList<>();
                for (int a = 0; a < arrows.size(); a++) {
                    if (toOf(a) == v) {
                        for (int[] x : rad.get(fromOf(a))) {
                            all.add(app(mod.mats[a], x));
                        }
                    }
                }
                next.add(basisOf(all));
            }
            rad = next;
        }
        throw new NoSuchElementException();
    }

    // ---- maps

    /** A basis of the maps, as rows of all numbers of all matrices. */
    List<int[]> homs(Mod x, Mod y) {
        int size = 0;
        for (int v = 0; v < n; v++) {
            size += x.dims[v] * y.dims[v];
        }
        List<int[]> effects = new ArrayList<>();
        for (int k = 0; k < size; k++) {
            int[] unit = new int[size];
            unit[k] = 1;
            int[][][] f = unpack(unit, x, y);
            List<Integer> effect = new ArrayList<>();
            for (int a = 0; a < arrows.size(); a++) {
                int u = fromOf(a);
                int w = toOf(a);
                int[][] one = mul(y.mats[a], f[u], y.dims[w], y.dims[u], x.dims[u]);
                int[][] two = mul(f[w], x.mats[a], y.dims[w], x.dims[w], x.dims[u]);
                for (int i = 0; i < y.dims[w]; i++) {
                    for (int j = 0; j < x.dims[u]; j++) {
                        effect.add(Math.floorMod(one[i][j] - two[i][j], p));
                    }
                }
            }
            effects.add(effect.stream().mapToInt(e -> e).toArray());
        }
        int equations = effects.isEmpty() ? 0 : effects.get(0).length;
        List<int[]> rows = new ArrayList<>();
        for (int e = 0; e < equations; e++) {
            int[] row = new int[size];
            for (int k = 0; k < size; k++) {
                row[k] = effects.get(k)[e];
            }
            rows.add(row);
        }
        return kernelOf(rows, size);
    }

    int[][][] unpack(int[] row, Mod x, Mod y) {
        int[][][] f = new int[n][][];
        int k = 0;
        for (int v = 0; v < n; v++) {
            f[v] = new int[y.dims[v]][x.dims[v]];
            for (int i = 0; i < y.dims[v]; i++) {
                for (int j = 0; j < x.dims[v]; j++) {
                    f[v][i][j] = row[k++];
                }
            }
        }
        return f;
    }

    /** All maps; the caller looks first whether there are not too many. */
    List<int[]> allMaps(List<int[]> basis, int width) {
        List<int[]> result = new ArrayList<>();
        result.add(new int[width]);
        for (int[] x : basis) {
            List<int[]> more = new ArrayList<>();
            for (int[] y : result) {
                for (int k = 0; k < p; k++) {
                    int[] z = y.clone();
                    for (int c = 0; c < width; c++) {
                        z[c] = (z[c] + k * x[c]) % p;
                    }
                    more.add(z);
                }
            }
            result = more;
        }
        return result;
    }

    int width(Mod x, Mod y) {
        int size = 0;
        for (int v = 0; v < n; v++) {
            size += x.dims[v] * y.dims[v];
        }
        return size;
    }

    boolean tooMany(int dimension) {
        return Math.pow(p, dimension) > 4096.5;
    }

    int maps(int x, int y) {
        when(!isM(x) || !isM(y), new IndexOutOfBoundsException());
        return homs(mods.get(x), mods.get(y)).size();
    }

    int det(int[][] x) {
        int d = x.length;
        if (d == 0) {
            return 1;
        }
        int sum = 0;
        for (int j = 0; j < d; j++) {
            int[][] minor = new int[d - 1][d - 1];
            for (int i = 1; i < d; i++) {
                for (int k = 0; k < d; k++) {
                    if (k != j) {
                        minor[i - 1][k < j ? k : k - 1] = x[i][k];
                    }
                }
            }
            sum += (j % 2 == 0 ? 1 : -1) * x[0][j] * det(minor);
        }
        return Math.floorMod(sum, p);
    }

    boolean areAlike(int x, int y) {
        when(!isM(x) || !isM(y), new IndexOutOfBoundsException());
        Mod one = mods.get(x);
        Mod two = mods.get(y);
        if (!Arrays.equals(one.dims, two.dims)) {
            return false;
        }
        List<int[]> basis = homs(one, two);
        when(tooMany(basis.size()), new IllegalStateException());
        for (int[] row : allMaps(basis, width(one, two))) {
            int[][][] f = unpack(row, one, two);
            boolean all = true;
            for (int v = 0; v < n && all; v++) {
                all = det(f[v]) != 0;
            }
            if (all) {
                return true;
            }
        }
        return false;
    }

    /** The module that spaces, told by bases at each vertex, are by themselves. */
    Mod within(Mod m, List<List<int[]>> spaces) {
        int[] d = new int[n];
        for (int v = 0; v < n; v++) {
            d[v] = spaces.get(v).size();
        }
        Mod r = blank(d);
        for (int a = 0; a < arrows.size(); a++) {
            for (int j = 0; j < d[fromOf(a)]; j++) {
                int[] c = coordinates(spaces.get(toOf(a)), app(m.mats[a], spaces.get(fromOf(a)).get(j)));
                for (int i = 0; i < c.length; i++) {
                    r.mats[a][i][j] = c[i];
                }
            }
        }
        return r;
    }

    /** By a map that is its own square, neither 0 nor the identity. */
    void splitInto(Mod m, List<int[]> found) {
        if (m.total() == 0) {
            return;
        }
        for (int[] row : allMaps(homs(m, m), width(m, m))) {
            int[][][] f = unpack(row, m, m);
            boolean isSquare = true;
            int trace = 0;
            for (int v = 0; v < n && isSquare; v++) {
                isSquare = Arrays.deepEquals(mul(f[v], f[v], m.dims[v], m.dims[v], m.dims[v]), f[v]);
                trace += rk(Arrays.asList(f[v]));
            }
            if (isSquare && trace > 0 && trace < m.total()) {
                List<List<int[]>> image = new ArrayList<>();
                List<List<int[]>> rest = new ArrayList<>();
                for (int v = 0; v < n; v++) {
                    image.add(basisOf(columns(f[v], m.dims[v])));
                    int[][] other = new int[m.dims[v]][m.dims[v]];
                    for (int i = 0; i < m.dims[v]; i++) {
                        for (int j = 0; j < m.dims[v]; j++) {
                            other[i][j] = Math.floorMod((i == j ? 1 : 0) - f[v][i][j], p);
                        }
                    }
                    rest.add(basisOf(columns(other, m.dims[v])));
                }
                splitInto(within(m, image), found);
                splitInto(within(m, rest), found);
                return;
            }
        }
        found.add(m.dims.clone());
    }

    static final Comparator<int[]> ORDER = (x, y) -> {
        int d = Arrays.stream(x).sum() - Arrays.stream(y).sum();
        return d != 0 ? d : Arrays.compare(x, y);
    };

    List<int[]> piecesOf(int m) {
        when(tooMany(homs(mods.get(m), mods.get(m)).size()), new IllegalStateException());
        List<int[]> found = new ArrayList<>();
        splitInto(mods.get(m), found);
        found.sort(ORDER);
        return found;
    }

    int pieces(int m) {
        when(!isM(m), new IndexOutOfBoundsException());
        return piecesOf(m).size();
    }

    int piece(int m, int index, int v) {
        when(!isM(m) || !isV(v), new IndexOutOfBoundsException());
        List<int[]> all = piecesOf(m);
        when(index < 0 || index >= all.size(), new NoSuchElementException());
        return all.get(index)[v];
    }

    // ---- syzygies

    /** The syzygy by a cover that is written out as a sum of projective modules. */
    Mod syzygyOf(Mod m) {
        Mod cover = blank(new int[n]);
        List<List<int[]>> onto = new ArrayList<>();
        for (int v = 0; v < n; v++) {
            onto.add(new ArrayList<>());
        }
        for (int v = 0; v < n; v++) {
            List<int[]> radical = basisOf(incoming(m, v));
            for (int i = m.dims[v] - 1; i >= 0; i--) {
                int[] e = new int[m.dims[v]];
                e[i] = 1;
                radical.add(e);
                if (rk(radical) < radical.size()) {
                    radical.remove(radical.size() - 1);
                    continue;
                }
                cover = blocks(cover, projectiveOf(v), null);
                for (int w = 0; w < n; w++) {
                    for (List<Integer> path : pathsBetween(v, w)) {
                        onto.get(w).add(path.isEmpty() ? e : app(pathMatrix(m, path), e));
                    }
                }
            }
        }
        when(cover.total() > 40, new UnsupportedOperationException());
        List<List<int[]>> kernel = new ArrayList<>();
        for (int v = 0; v < n; v++) {
            List<int[]> rows = new ArrayList<>();
            for (int i = 0; i < m.dims[v]; i++) {
                int[] row = new int[cover.dims[v]];
                for (int j = 0; j < row.length; j++) {
                    row[j] = onto.get(v).get(j)[i];
                }
                rows.add(row);
            }
            kernel.add(kernelOf(rows, cover.dims[v]));
        }
        return within(cover, kernel);
    }

    int syzygy(int m, int times, int v) {
        when(!isM(m) || !isV(v), new IndexOutOfBoundsException());
        when(times < 0 || times > 6, new IllegalArgumentException());
        when(!relationsHold(mods.get(m)) || !boundedPaths(), new UnsupportedOperationException());
        Mod at = mods.get(m);
        for (int i = 0; i < times; i++) {
            at = syzygyOf(at);
        }
        return at.dims[v];
    }

    /** By blocks that make a module of two, less those that only change bases. */
    int extensions(int x, int y) {
        when(!isM(x) || !isM(y), new IndexOutOfBoundsException());
        Mod one = mods.get(x);
        Mod two = mods.get(y);
        when(!relationsHold(one) || !relationsHold(two) || !boundedPaths(), new UnsupportedOperationException());
        syzygyOf(one);
        int size = 0;
        for (int a = 0; a < arrows.size(); a++) {
            size += one.dims[fromOf(a)] * two.dims[toOf(a)];
        }
        List<int[]> effects = new ArrayList<>();
        for (int k = 0; k < size; k++) {
            int left = k;
            int[][][] corner = new int[arrows.size()][][];
            for (int a = 0; a < arrows.size(); a++) {
                corner[a] = new int[two.dims[toOf(a)]][one.dims[fromOf(a)]];
                for (int[] r : corner[a]) {
                    for (int j = 0; j < r.length; j++) {
                        r[j] = left-- == 0 ? 1 : 0;
                    }
                }
            }
            Mod whole = blocks(two, one, corner);
            List<Integer> effect = new ArrayList<>();
            for (List<Integer> z : told) {
                for (int[] r : pathMatrix(whole, z)) {
                    for (int e : r) {
                        effect.add(e);
                    }
                }
            }
            effects.add(effect.stream().mapToInt(e -> e).toArray());
        }
        int base = 0;
        for (int v = 0; v < n; v++) {
            base += one.dims[v] * two.dims[v];
        }
        return size - rk(effects) - (base - homs(one, two).size());
    }

    int resolution(int m) {
        when(!isM(m), new IndexOutOfBoundsException());
        when(!relationsHold(mods.get(m)) || !boundedPaths(), new UnsupportedOperationException());
        Mod at = mods.get(m);
        for (int k = -1; k <= 6; k++) {
            if (at.total() == 0) {
                return k;
            }
            if (k < 6) {
                at = syzygyOf(at);
            } else {
                throw new NoSuchElementException();
            }
        }
        throw new NoSuchElementException();
    }

    // ---- submodules and slopes

    int code(int[] x) {
        int c = 0;
        for (int y : x) {
            c = c * p + y;
        }
        return c;
    }

    /** Each space as the set of its vectors. */
    Set<BitSet> spacesOf(int d, int dimension) {
        List<int[]> vectors = allVectors(d);
        BitSet none = new BitSet();
        none.set(0);
        Set<BitSet> level = new LinkedHashSet<>(List.of(none));
        for (int k = 0; k < dimension; k++) {
            Set<BitSet> next = new LinkedHashSet<>();
            for (BitSet s : level) {
                for (int[] v : vectors) {
                    if (!s.get(code(v))) {
                        BitSet bigger = new BitSet();
                        for (int[] w : vectors) {
                            if (s.get(code(w))) {
                                for (int f = 0; f < p; f++) {
                                    int[] sum = w.clone();
                                    for (int i = 0; i < d; i++) {
                                        sum[i] = (sum[i] + f * v[i]) % p;
                                    }
                                    bigger.set(code(sum));
                                }
                            }
                        }
                        next.add(bigger);
                    }
                }
            }
            level = next;
        }
        return level;
    }

    private final java.util.Map<String, List<BitSet>> spaceCache = new java.util.HashMap<>();

    List<BitSet> cachedSpaces(int d, int k) {
        return spaceCache.computeIfAbsent(p + "," + d + "," + k, key -> new ArrayList<>(spacesOf(d, k)));
    }

    long ways(Mod m, int[] dims) {
        long ways = 1;
        for (int v = 0; v < n; v++) {
            long here = 0;
            for (int k = 0; k <= m.dims[v]; k++) {
                here += dims == null || dims[v] == k ? cachedSpaces(m.dims[v], k).size() : 0;
            }
            ways *= here;
        }
        return ways;
    }

    /** All submodules, each as one set of vectors at each vertex. */
    List<BitSet[]> submodulesOf(Mod m, int[] dims) {
        List<BitSet[]> found = new ArrayList<>();
        collect(m, dims, new BitSet[n], 0, found);
        return found;
    }

    void collect(Mod m, int[] dims, BitSet[] chosen, int v, List<BitSet[]> found) {
        for (int a = 0; a < arrows.size() && v > 0; a++) {
            if (Math.max(fromOf(a), toOf(a)) == v - 1) {
                for (int[] x : allVectors(m.dims[fromOf(a)])) {
                    if (chosen[fromOf(a)].get(code(x)) && !chosen[toOf(a)].get(code(app(m.mats[a], x)))) {
                        return;
                    }
                }
            }
        }
        if (v == n) {
            found.add(chosen.clone());
            return;
        }
        for (int k = 0; k <= m.dims[v]; k++) {
            if (dims == null || dims[v] == k) {
                for (BitSet s : cachedSpaces(m.dims[v], k)) {
                    chosen[v] = s;
                    collect(m, dims, chosen, v + 1, found);
                }
            }
        }
    }

    int dimOf(BitSet s) {
        int count = s.cardinality();
        int d = 0;
        while (count > 1) {
            count /= p;
            d++;
        }
        return d;
    }

    int submodules(int m) {
        when(!isM(m), new IndexOutOfBoundsException());
        when(typed.size() != n, new IllegalArgumentException());
        int[] dims = typed.stream().mapToInt(x -> x).toArray();
        long ways = ways(mods.get(m), dims);
        when(ways > 20000, new IllegalStateException());
        typed.clear();
        return ways == 0 ? 0 : submodulesOf(mods.get(m), dims).size();
    }

    int weight(int v, int w) {
        when(!isV(v), new IndexOutOfBoundsException());
        when(w < -9 || w > 9, new IllegalArgumentException());
        int before = weights[v];
        weights[v] = w;
        return before;
    }

    int[] sizes(BitSet[] sub) {
        int[] d = new int[n];
        for (int v = 0; v < n; v++) {
            d[v] = dimOf(sub[v]);
        }
        return d;
    }

    /** The slopes of two rows of dimensions, compared. */
    int compareSlopes(int[] x, int[] y) {
        int wx = 0;
        int wy = 0;
        int dx = 0;
        int dy = 0;
        for (int v = 0; v < n; v++) {
            wx += weights[v] * x[v];
            wy += weights[v] * y[v];
            dx += x[v];
            dy += y[v];
        }
        return Integer.compare(wx * dy, wy * dx);
    }

    char stability(int m) {
        when(!isM(m), new IndexOutOfBoundsException());
        Mod mod = mods.get(m);
        when(mod.total() == 0, new NoSuchElementException());
        when(ways(mod, null) > 20000, new IllegalStateException());
        char told = 's';
        for (BitSet[] sub : submodulesOf(mod, null)) {
            int[] d = sizes(sub);
            int all = Arrays.stream(d).sum();
            if (all == 0 || all == mod.total()) {
                continue;
            }
            int c = compareSlopes(d, mod.dims);
            if (c > 0) {
                return 'u';
            }
            if (c == 0) {
                told = 'm';
            }
        }
        return told;
    }

    List<int[]> steps(Mod m) {
        List<int[]> result = new ArrayList<>();
        Mod at = m;
        while (at.total() > 0) {
            BitSet[] best = null;
            int ties = 0;
            for (BitSet[] sub : submodulesOf(at, null)) {
                int[] d = sizes(sub);
                if (Arrays.stream(d).sum() == 0) {
                    continue;
                }
                int c = best == null ? 1 : compareSlopes(d, sizes(best));
                if (c == 0) {
                    c = Arrays.stream(d).sum() - Arrays.stream(sizes(best)).sum();
                }
                if (c > 0) {
                    best = sub;
                    ties = 1;
                } else if (c == 0) {
                    ties++;
                }
            }
            if (ties != 1) {
                throw new AssertionError("not one alone");
            }
            result.add(sizes(best));
            at = quotient(at, best);
        }
        return result;
    }

    Mod quotient(Mod m, BitSet[] sub) {
        List<List<int[]>> bases = new ArrayList<>();
        int[] d = new int[n];
        int[] below = new int[n];
        for (int v = 0; v < n; v++) {
            List<int[]> inside = new ArrayList<>();
            for (int[] x : allVectors(m.dims[v])) {
                if (sub[v].get(code(x))) {
                    inside.add(x);
                }
            }
            List<int[]> basis = basisOf(inside);
            below[v] = basis.size();
            for (int i = 0; i < m.dims[v]; i++) {
                int[] e = new int[m.dims[v]];
                e[i] = 1;
                basis.add(e);
                if (rk(basis) < basis.size()) {
                    basis.remove(basis.size() - 1);
                }
            }
            bases.add(basis);
            d[v] = m.dims[v] - below[v];
        }
        Mod r = blank(d);
        for (int a = 0; a < arrows.size(); a++) {
            int u = fromOf(a);
            int w = toOf(a);
            for (int j = 0; j < d[u]; j++) {
                int[] c = coordinates(bases.get(w), app(m.mats[a], bases.get(u).get(below[u] + j)));
                for (int i = 0; i < d[w]; i++) {
                    r.mats[a][i][j] = c[below[w] + i];
                }
            }
        }
        return r;
    }

    int filtration(int m, int step, int v) {
        when(!isM(m) || !isV(v), new IndexOutOfBoundsException());
        Mod mod = mods.get(m);
        when(ways(mod, null) > 20000, new IllegalStateException());
        List<int[]> all = steps(mod);
        when(step < 0 || step >= all.size(), new NoSuchElementException());
        return all.get(step)[v];
    }

    int bars(int m, int u, int w) {
        when(!isM(m) || !isV(u) || !isV(w) || u > w, new IndexOutOfBoundsException());
        boolean isRow = told.isEmpty() && arrows.size() == n - 1;
        boolean[] joined = new boolean[5];
        for (int[] a : arrows) {
            int low = Math.min(a[0], a[1]);
            isRow &= Math.abs(a[0] - a[1]) == 1 && !joined[low];
            joined[low] = true;
        }
        when(!isRow, new UnsupportedOperationException());
        int count = 0;
        for (int[] piece : piecesOf(m)) {
            boolean is = true;
            for (int v = 0; v < n; v++) {
                is &= piece[v] == (u <= v && v <= w ? 1 : 0);
            }
            count += is ? 1 : 0;
        }
        return count;
    }

    // ---- roots

    int formOf(int[] x, int[] y) {
        int f = 0;
        for (int v = 0; v < n; v++) {
            f += x[v] * y[v];
        }
        for (int[] a : arrows) {
            f -= x[a[0]] * y[a[1]];
        }
        return f;
    }

    boolean reaches(int u, int w, boolean bothWays) {
        boolean[] seen = new boolean[5];
        List<Integer> queue = new ArrayList<>();
        for (int[] a : arrows) {
            if (a[0] == u) {
                queue.add(a[1]);
            } else if (bothWays && a[1] == u) {
                queue.add(a[0]);
            }
        }
        while (!queue.isEmpty()) {
            int x = queue.remove(0);
            if (seen[x]) {
                continue;
            }
            seen[x] = true;
            for (int[] a : arrows) {
                if (a[0] == x) {
                    queue.add(a[1]);
                } else if (bothWays && a[1] == x) {
                    queue.add(a[0]);
                }
            }
        }
        return seen[w];
    }

    boolean isProper() {
        if (n == 0 || !told.isEmpty()) {
            return false;
        }
        for (int v = 0; v < n; v++) {
            if (reaches(v, v, false) || v > 0 && !reaches(0, v, true)) {
                return false;
            }
        }
        return true;
    }

    char kind() {
        when(!isProper(), new UnsupportedOperationException());
        findRoots();
        return kindFound;
    }

    void findRoots() {
        if (rootList != null) {
            return;
        }
        rootList = new ArrayList<>();
        int lowest = 1;
        int all = (int) Math.round(Math.pow(7, n));
        for (int k = 1; k < all; k++) {
            int[] x = new int[n];
            int left = k;
            for (int v = 0; v < n; v++) {
                x[v] = left % 7;
                left /= 7;
            }
            int f = formOf(x, x);
            lowest = Math.min(lowest, f);
            if (f == 1) {
                rootList.add(x);
            }
        }
        rootList.sort(ORDER);
        kindFound = lowest > 0 ? 'f' : lowest == 0 ? 't' : 'w';
    }

    int form() {
        when(typed.size() != (n == 5 ? 5 : 2 * n), new IllegalArgumentException());
        int[] x = new int[n];
        int[] y = new int[n];
        for (int v = 0; v < n; v++) {
            x[v] = typed.get(v);
            y[v] = n == 5 ? x[v] : typed.get(n + v);
        }
        typed.clear();
        return formOf(x, y);
    }

    void needF() {
        when(!isProper(), new UnsupportedOperationException());
        findRoots();
        when(kindFound != 'f', new UnsupportedOperationException());
    }

    void needRoot(int i) {
        when(i < 0 || i >= rootList.size(), new NoSuchElementException());
    }

    int roots() {
        needF();
        return rootList.size();
    }

    int root(int i, int v) {
        needF();
        needRoot(i);
        when(!isV(v), new IndexOutOfBoundsException());
        return rootList.get(i)[v];
    }

    /** The root of which the equation of the translate holds, by trying all. */
    int translateOf(int i) {
        for (int j = 0; j < rootList.size(); j++) {
            boolean is = true;
            for (int v = 0; v < n; v++) {
                int[] e = new int[n];
                e[v] = 1;
                is &= formOf(rootList.get(i), e) == -formOf(e, rootList.get(j));
            }
            if (is) {
                return j;
            }
        }
        return -1;
    }

    int[] orbitOf(int i) {
        int at = i;
        int time = 0;
        for (int next = translateOf(at); next >= 0; next = translateOf(at)) {
            at = next;
            time++;
        }
        for (int v = 0; v < n; v++) {
            int[] row = new int[n];
            for (int w = 0; w < n; w++) {
                row[w] = pathsBetween(v, w).size();
            }
            if (Arrays.equals(row, rootList.get(at))) {
                return new int[] {v, time};
            }
        }
        throw new AssertionError("no orbit");
    }

    int orbit(int i) {
        needF();
        needRoot(i);
        int[] o = orbitOf(i);
        return o[0] + 10 * o[1];
    }

    int translate(int i) {
        needF();
        needRoot(i);
        return translateOf(i);
    }

    int between(int i, int j, boolean ext) {
        needF();
        needRoot(i);
        needRoot(j);
        int f = formOf(rootList.get(i), rootList.get(j));
        return ext ? (f < 0 ? -f : 0) : (f > 0 ? f : 0);
    }

    int mesh(int i, int j) {
        needF();
        needRoot(i);
        needRoot(j);
        int[] x = orbitOf(i);
        int[] y = orbitOf(j);
        int count = 0;
        for (int[] a : arrows) {
            if (x[1] == y[1] && a[0] == y[0] && a[1] == x[0]) {
                count++;
            }
            if (x[1] + 1 == y[1] && a[0] == x[0] && a[1] == y[0]) {
                count++;
            }
        }
        return count;
    }

    boolean tiltingSet(int set) {
        List<int[]> in = new ArrayList<>();
        for (int i = 0; i < 32; i++) {
            if ((set >>> i & 1) == 1) {
                if (i >= rootList.size()) {
                    return false;
                }
                in.add(rootList.get(i));
            }
        }
        boolean is = in.size() == n;
        for (int[] x : in) {
            for (int[] y : in) {
                is &= formOf(x, y) >= 0;
            }
        }
        return is;
    }

    int tilting() {
        needF();
        int count = 0;
        for (int set = 0; set < 1 << rootList.size(); set++) {
            if (Integer.bitCount(set) == n && tiltingSet(set)) {
                count++;
            }
        }
        return count;
    }

    boolean isTilting(int set) {
        needF();
        return tiltingSet(set);
    }

    int mutate(int set, int i) {
        needF();
        boolean has = i >= 0 && i < 31 && (set >>> i & 1) == 1;
        when(!tiltingSet(set) || !has, new IllegalArgumentException());
        int rest = set - (1 << i);
        for (int j = 0; j < rootList.size(); j++) {
            if (j != i && (rest >>> j & 1) == 0 && tiltingSet(rest + (1 << j))) {
                return rest + (1 << j);
            }
        }
        throw new NoSuchElementException();
    }

    // ---- clusters

    boolean twisted() {
        for (int[] x : arrows) {
            for (int[] y : arrows) {
                if (x[0] == y[1] && x[1] == y[0]) {
                    return true;
                }
            }
        }
        return false;
    }

    int turn(int k) {
        when(!isV(k), new IndexOutOfBoundsException());
        when(twisted(), new UnsupportedOperationException());
        int[][] c = new int[n][n];
        boolean big = false;
        for (int i = 0; i < n; i++) {
            for (int j = 0; j < n; j++) {
                int half = (Math.abs(b[i][k]) * b[k][j] + b[i][k] * Math.abs(b[k][j])) / 2;
                c[i][j] = i == k || j == k ? -b[i][j] : b[i][j] + half;
                big |= Math.abs(c[i][j]) > 1000;
            }
        }
        BigInteger above = BigInteger.ONE;
        BigInteger below = BigInteger.ONE;
        for (int j = 0; j < n; j++) {
            if (b[k][j] > 0) {
                above = above.multiply(friezes[j].pow(b[k][j]));
            } else {
                below = below.multiply(friezes[j].pow(-b[k][j]));
            }
        }
        BigInteger[] parts = above.add(below).divideAndRemainder(friezes[k]);
        if (parts[1].signum() != 0) {
            throw new AssertionError("no whole number");
        }
        when(big || parts[0].compareTo(BigInteger.valueOf(1000000)) > 0, new UnsupportedOperationException());
        b = c;
        friezes[k] = parts[0];
        return parts[0].intValue();
    }

    int turned(int i, int j) {
        when(!isV(i) || !isV(j), new IndexOutOfBoundsException());
        when(twisted(), new UnsupportedOperationException());
        return b[i][j];
    }

    int frieze(int v) {
        when(!isV(v), new IndexOutOfBoundsException());
        return friezes[v].intValue();
    }

    // ---- figures

    List<Integer> numbers(Mod m) {
        List<Integer> all = new ArrayList<>();
        for (int[][] x : m.mats) {
            for (int[] r : x) {
                for (int y : r) {
                    all.add(y);
                }
            }
        }
        return all;
    }

    long checksum(int m) {
        when(!isM(m), new IndexOutOfBoundsException());
        long s = 11;
        for (int d : mods.get(m).dims) {
            s = 31 * s + d;
        }
        for (int x : numbers(mods.get(m))) {
            s = 31 * s + x;
        }
        return s;
    }

    float zeroShare(int m) {
        when(!isM(m), new IndexOutOfBoundsException());
        List<Integer> all = numbers(mods.get(m));
        when(all.isEmpty(), new ArithmeticException());
        return (float) Collections.frequency(all, 0) / (float) all.size();
    }

    double meanDimension() {
        when(mods.isEmpty(), new ArithmeticException());
        return (double) mods.stream().mapToInt(Mod::total).sum() / (double) mods.size();
    }

    boolean isConsistent() {
        return true;
    }
}
