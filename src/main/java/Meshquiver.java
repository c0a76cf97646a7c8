import java.util.NoSuchElementException;

/**
 * A house of arrows that act: a quiver with zero paths, its modules over a small field, and what
 * can be told of them. Whatever a call needs is made with the house and used again, so that a long
 * run of calls makes no new objects but its exceptions.
 */
public final class Meshquiver {
    private static final int MOST_VERTICES = 5;
    private static final int MOST_ARROWS = 7;
    private static final int MOST_ZEROS = 5;
    private static final int SHORTEST_ZERO = 2;
    private static final int LONGEST_ZERO = 4;
    private static final int MOST_TYPED = 8;
    private static final int GREATEST_NUMBER = 9;
    private static final int MOST_PATHS = 60;
    private static final int MOST_MODULES = 12;
    private static final int MOST_AT_VERTEX = 4;
    private static final int MATRIX_ROOM = MOST_AT_VERTEX * MOST_AT_VERTEX;
    private static final int MOST_DIMENSIONS = 10;
    private static final int MOST_MAPS = 4096;
    private static final int MOST_BASIC_MAPS = 12;
    /** Dimensions 4, 4 and 2 on either side have the most numbers in a map of modules. */
    private static final int MAP_ROOM = 36;
    private static final int MOST_COVER = 40;
    private static final int MOST_SYZYGIES = 6;
    private static final int MOST_WAYS = 20000;
    private static final int GREATEST_ROOT_NUMBER = 6;
    /** The greatest quiver of kind f with 5 vertices has 20 roots; bits of an int bound the rest. */
    private static final int ROOT_ROOM = 31;
    private static final int MOST_FRIEZE = 1000000;
    private static final int MOST_TURNED = 1000;
    private static final int NONE = -1;

    private final Quiver quiver = new Quiver();
    private final PathTable pathTable = new PathTable(quiver);
    private final int[] typed = new int[MOST_TYPED];
    private int typedCount = 0;
    private final Rep[] modules = new Rep[MOST_MODULES];
    private int moduleCount = 0;
    private final int[] weights = new int[MOST_VERTICES];
    private final int[] dims = new int[MOST_VERTICES];
    private final Echelon echelon = new Echelon(quiver, MOST_AT_VERTEX * MOST_COVER);
    private final MapSpace mapSpace = new MapSpace(quiver, echelon);
    private final Parts parts = new Parts(quiver, echelon, mapSpace);
    private final Resolver resolver = new Resolver(quiver, pathTable, echelon, mapSpace);
    private final SpaceSearch search = new SpaceSearch(quiver, weights);
    private final RootTable rootTable = new RootTable(quiver, pathTable);
    private final Cluster cluster = new Cluster(quiver);
    /** The module whose pieces are known, so that asking for piece after piece splits once. */
    private int piecesOf = NONE;
    /** The module whose submodules are surveyed for slopes. */
    private int surveyOf = NONE;

    /** Creates a house without vertices. */
    public Meshquiver() {
        for (int i = 0; i < MOST_MODULES; i++) {
            modules[i] = new Rep(quiver, MOST_AT_VERTEX);
        }
    }

    // ---- quiver and field

    public int type(int number) throws IllegalArgumentException, IllegalStateException {
        if (number < -GREATEST_NUMBER || number > GREATEST_NUMBER) {
            throw new IllegalArgumentException();
        }
        if (typedCount >= MOST_TYPED) {
            throw new IllegalStateException();
        }
        typed[typedCount] = number;
        typedCount++;
        return typedCount;
    }

    public int clearRow() {
        int count = typedCount;
        typedCount = 0;
        return count;
    }

    public int vertex() throws UnsupportedOperationException, IllegalStateException {
        if (moduleCount > 0) {
            throw new UnsupportedOperationException();
        }
        if (quiver.vertexCount >= MOST_VERTICES) {
            throw new IllegalStateException();
        }
        int number = quiver.vertexCount;
        quiver.vertexCount++;
        learnQuiver();
        cluster.begin();
        return number;
    }

    public int arrow(int from, int to)
            throws IndexOutOfBoundsException, UnsupportedOperationException, IllegalStateException {
        if (!quiver.hasVertex(from) || !quiver.hasVertex(to)) {
            throw new IndexOutOfBoundsException();
        }
        if (moduleCount > 0) {
            throw new UnsupportedOperationException();
        }
        if (quiver.arrowCount >= MOST_ARROWS) {
            throw new IllegalStateException();
        }
        int number = quiver.arrowCount;
        quiver.addArrow(from, to);
        learnQuiver();
        cluster.begin();
        return number;
    }

    public int zero() throws IllegalArgumentException, UnsupportedOperationException, IllegalStateException {
        if (!quiver.isZeroPath(typed, typedCount)) {
            throw new IllegalArgumentException();
        }
        if (moduleCount > 0) {
            throw new UnsupportedOperationException();
        }
        if (quiver.zeroCount >= MOST_ZEROS) {
            throw new IllegalStateException();
        }
        quiver.addZero(typed, typedCount);
        typedCount = 0;
        learnQuiver();
        return quiver.zeroCount;
    }

    public int field(int prime) throws IllegalArgumentException, UnsupportedOperationException {
        if (prime != 2 && prime != 3 && prime != 5) {
            throw new IllegalArgumentException();
        }
        if (moduleCount > 0) {
            throw new UnsupportedOperationException();
        }
        int before = quiver.prime;
        quiver.prime = prime;
        return before;
    }

    public boolean isFinite() {
        return pathTable.isBounded;
    }

    public int paths(int from, int to) throws IndexOutOfBoundsException, UnsupportedOperationException {
        if (!quiver.hasVertex(from) || !quiver.hasVertex(to)) {
            throw new IndexOutOfBoundsException();
        }
        if (!pathTable.isBounded) {
            throw new UnsupportedOperationException();
        }
        return pathTable.pairs[from][to];
    }

    public int clearModules() {
        int count = moduleCount;
        moduleCount = 0;
        forgetModules();
        return count;
    }

    // ---- modules

    public int module() throws IllegalArgumentException, IllegalStateException {
        if (typedCount != quiver.vertexCount || !areDimensions(typed, quiver.vertexCount)) {
            throw new IllegalArgumentException();
        }
        if (moduleCount >= MOST_MODULES) {
            throw new IllegalStateException();
        }
        modules[moduleCount].shape(typed);
        typedCount = 0;
        return numberNewModule();
    }

    public int entry(int module, int arrow, int row, int column, int value)
            throws IndexOutOfBoundsException, IllegalArgumentException {
        if (!hasEntry(module, arrow, row, column)) {
            throw new IndexOutOfBoundsException();
        }
        if (value < -GREATEST_NUMBER || value > GREATEST_NUMBER) {
            throw new IllegalArgumentException();
        }
        int before = modules[module].at(arrow, row, column);
        // 30 is a multiple of each prime, so it lifts the number above 0 without changing its rest.
        modules[module].put(arrow, row, column, residue(value + 30, quiver.prime));
        forgetModules();
        return before;
    }

    public int entryAt(int module, int arrow, int row, int column) throws IndexOutOfBoundsException {
        if (!hasEntry(module, arrow, row, column)) {
            throw new IndexOutOfBoundsException();
        }
        return modules[module].at(arrow, row, column);
    }

    public boolean holds(int module) throws IndexOutOfBoundsException {
        if (!hasModule(module)) {
            throw new IndexOutOfBoundsException();
        }
        return modules[module].keepsZeros();
    }

    public int simple(int vertex) throws IndexOutOfBoundsException, IllegalStateException {
        if (!quiver.hasVertex(vertex)) {
            throw new IndexOutOfBoundsException();
        }
        if (moduleCount >= MOST_MODULES) {
            throw new IllegalStateException();
        }
        for (int v = 0; v < MOST_VERTICES; v++) {
            dims[v] = v == vertex ? 1 : 0;
        }
        modules[moduleCount].shape(dims);
        return numberNewModule();
    }

    public int projective(int vertex)
            throws IndexOutOfBoundsException, UnsupportedOperationException, IllegalStateException {
        if (!quiver.hasVertex(vertex)) {
            throw new IndexOutOfBoundsException();
        }
        for (int v = 0; v < MOST_VERTICES; v++) {
            dims[v] = pathTable.pairs[vertex][v];
        }
        if (!pathTable.isBounded || !areDimensions(dims, quiver.vertexCount)) {
            throw new UnsupportedOperationException();
        }
        if (moduleCount >= MOST_MODULES) {
            throw new IllegalStateException();
        }
        modules[moduleCount].shape(dims);
        pathTable.fillProjective(modules[moduleCount], vertex);
        return numberNewModule();
    }

    public int injective(int vertex)
            throws IndexOutOfBoundsException, UnsupportedOperationException, IllegalStateException {
        if (!quiver.hasVertex(vertex)) {
            throw new IndexOutOfBoundsException();
        }
        for (int v = 0; v < MOST_VERTICES; v++) {
            dims[v] = pathTable.pairs[v][vertex];
        }
        if (!pathTable.isBounded || !areDimensions(dims, quiver.vertexCount)) {
            throw new UnsupportedOperationException();
        }
        if (moduleCount >= MOST_MODULES) {
            throw new IllegalStateException();
        }
        modules[moduleCount].shape(dims);
        pathTable.fillInjective(modules[moduleCount], vertex);
        return numberNewModule();
    }

    public int string(int vertex) throws IndexOutOfBoundsException, IllegalArgumentException,
            UnsupportedOperationException, IllegalStateException {
        if (!quiver.hasVertex(vertex)) {
            throw new IndexOutOfBoundsException();
        }
        if (!countPlaces(vertex)) {
            throw new IllegalArgumentException();
        }
        if (!quiver.isString(typed, typedCount) || !areDimensions(dims, quiver.vertexCount)) {
            throw new UnsupportedOperationException();
        }
        if (moduleCount >= MOST_MODULES) {
            throw new IllegalStateException();
        }
        modules[moduleCount].shape(dims);
        fillString(modules[moduleCount], vertex);
        typedCount = 0;
        return numberNewModule();
    }

    public int sum(int module, int other)
            throws IndexOutOfBoundsException, UnsupportedOperationException, IllegalStateException {
        if (!hasModule(module) || !hasModule(other)) {
            throw new IndexOutOfBoundsException();
        }
        for (int v = 0; v < MOST_VERTICES; v++) {
            dims[v] = modules[module].dims[v] + modules[other].dims[v];
        }
        if (!areDimensions(dims, quiver.vertexCount)) {
            throw new UnsupportedOperationException();
        }
        if (moduleCount >= MOST_MODULES) {
            throw new IllegalStateException();
        }
        modules[moduleCount].shape(dims);
        modules[moduleCount].fillSum(modules[module], modules[other]);
        return numberNewModule();
    }

    public int dimension(int module, int vertex) throws IndexOutOfBoundsException {
        if (!hasModule(module) || !quiver.hasVertex(vertex)) {
            throw new IndexOutOfBoundsException();
        }
        return modules[module].dims[vertex];
    }

    public int rank(int module, int arrow) throws IndexOutOfBoundsException {
        if (!hasModule(module) || !quiver.hasArrow(arrow)) {
            throw new IndexOutOfBoundsException();
        }
        return echelon.rankOf(modules[module], arrow);
    }

    public int top(int module, int vertex) throws IndexOutOfBoundsException {
        if (!hasModule(module) || !quiver.hasVertex(vertex)) {
            throw new IndexOutOfBoundsException();
        }
        return modules[module].dims[vertex] - echelon.takeRadical(modules[module], vertex);
    }

    public int socle(int module, int vertex) throws IndexOutOfBoundsException {
        if (!hasModule(module) || !quiver.hasVertex(vertex)) {
            throw new IndexOutOfBoundsException();
        }
        return modules[module].dims[vertex] - echelon.takeLeaving(modules[module], vertex);
    }

    public int layers(int module) throws IndexOutOfBoundsException, NoSuchElementException {
        if (!hasModule(module)) {
            throw new IndexOutOfBoundsException();
        }
        int count = parts.countLayers(modules[module]);
        if (count < 0) {
            throw new NoSuchElementException();
        }
        return count;
    }

    // ---- maps, pieces, syzygies

    public int maps(int module, int other) throws IndexOutOfBoundsException {
        if (!hasModule(module) || !hasModule(other)) {
            throw new IndexOutOfBoundsException();
        }
        return mapSpace.measure(modules[module], modules[other]);
    }

    public boolean areAlike(int module, int other) throws IndexOutOfBoundsException, IllegalStateException {
        if (!hasModule(module) || !hasModule(other)) {
            throw new IndexOutOfBoundsException();
        }
        if (!haveLikeDimensions(modules[module], modules[other])) {
            return false;
        }
        if (mapSpace.hasTooMany(mapSpace.measure(modules[module], modules[other]))) {
            throw new IllegalStateException();
        }
        return mapSpace.hasInvertible();
    }

    public int pieces(int module) throws IndexOutOfBoundsException, IllegalStateException {
        if (!hasModule(module)) {
            throw new IndexOutOfBoundsException();
        }
        if (!knowPieces(module)) {
            throw new IllegalStateException();
        }
        return parts.pieceCount;
    }

    public int piece(int module, int index, int vertex)
            throws IndexOutOfBoundsException, IllegalStateException, NoSuchElementException {
        if (!hasModule(module) || !quiver.hasVertex(vertex)) {
            throw new IndexOutOfBoundsException();
        }
        if (!knowPieces(module)) {
            throw new IllegalStateException();
        }
        if (index < 0 || index >= parts.pieceCount) {
            throw new NoSuchElementException();
        }
        return parts.pieceRows[index][vertex];
    }

    public int syzygy(int module, int times, int vertex)
            throws IndexOutOfBoundsException, IllegalArgumentException, UnsupportedOperationException {
        if (!hasModule(module) || !quiver.hasVertex(vertex)) {
            throw new IndexOutOfBoundsException();
        }
        if (times < 0 || times > MOST_SYZYGIES) {
            throw new IllegalArgumentException();
        }
        if (!canBeCovered(module) || !resolver.goTo(modules[module], times)) {
            throw new UnsupportedOperationException();
        }
        return resolver.current.dims[vertex];
    }

    public int extensions(int module, int other)
            throws IndexOutOfBoundsException, UnsupportedOperationException {
        if (!hasModule(module) || !hasModule(other)) {
            throw new IndexOutOfBoundsException();
        }
        if (!canBeCovered(module) || !canBeCovered(other) || !resolver.goTo(modules[module], 1)) {
            throw new UnsupportedOperationException();
        }
        return resolver.countExtensions(modules[module], modules[other]);
    }

    public int resolution(int module)
            throws IndexOutOfBoundsException, UnsupportedOperationException, NoSuchElementException {
        if (!hasModule(module)) {
            throw new IndexOutOfBoundsException();
        }
        if (!canBeCovered(module) || !resolver.resolve(modules[module])) {
            throw new UnsupportedOperationException();
        }
        if (resolver.current.total > 0) {
            throw new NoSuchElementException();
        }
        return resolver.steps - 1;
    }

    public int submodules(int module)
            throws IndexOutOfBoundsException, IllegalArgumentException, IllegalStateException {
        if (!hasModule(module)) {
            throw new IndexOutOfBoundsException();
        }
        if (typedCount != quiver.vertexCount) {
            throw new IllegalArgumentException();
        }
        if (search.countWaysOf(modules[module], typed) > MOST_WAYS) {
            throw new IllegalStateException();
        }
        typedCount = 0;
        return search.countSubmodules(modules[module], typed);
    }

    public int weight(int vertex, int weight) throws IndexOutOfBoundsException, IllegalArgumentException {
        if (!quiver.hasVertex(vertex)) {
            throw new IndexOutOfBoundsException();
        }
        if (weight < -GREATEST_NUMBER || weight > GREATEST_NUMBER) {
            throw new IllegalArgumentException();
        }
        int before = weights[vertex];
        weights[vertex] = weight;
        surveyOf = NONE;
        return before;
    }

    public char stability(int module)
            throws IndexOutOfBoundsException, NoSuchElementException, IllegalStateException {
        if (!hasModule(module)) {
            throw new IndexOutOfBoundsException();
        }
        if (modules[module].total == 0) {
            throw new NoSuchElementException();
        }
        if (!knowSubmodules(module)) {
            throw new IllegalStateException();
        }
        return search.slopeKind;
    }

    public int filtration(int module, int step, int vertex)
            throws IndexOutOfBoundsException, IllegalStateException, NoSuchElementException {
        if (!hasModule(module) || !quiver.hasVertex(vertex)) {
            throw new IndexOutOfBoundsException();
        }
        if (!knowSubmodules(module)) {
            throw new IllegalStateException();
        }
        if (step < 0 || step >= search.stepCount) {
            throw new NoSuchElementException();
        }
        return search.stepRows[step][vertex];
    }

    public int bars(int module, int from, int to)
            throws IndexOutOfBoundsException, UnsupportedOperationException, IllegalStateException {
        if (!hasModule(module) || !quiver.hasVertex(from) || !quiver.hasVertex(to) || from > to) {
            throw new IndexOutOfBoundsException();
        }
        if (!quiver.isLine()) {
            throw new UnsupportedOperationException();
        }
        if (!knowPieces(module)) {
            throw new IllegalStateException();
        }
        return parts.countBars(from, to);
    }

    // ---- roots, tilting, clusters

    public char kind() throws UnsupportedOperationException {
        if (!quiver.hasKind()) {
            throw new UnsupportedOperationException();
        }
        return rootTable.tellKind();
    }

    public int form() throws IllegalArgumentException {
        int count = quiver.vertexCount;
        boolean isWithItself = count == MOST_VERTICES;
        if (typedCount != (isWithItself ? count : 2 * count)) {
            throw new IllegalArgumentException();
        }
        for (int v = 0; v < count; v++) {
            dims[v] = isWithItself ? typed[v] : typed[count + v];
        }
        typedCount = 0;
        return quiver.formOf(typed, dims);
    }

    public int roots() throws UnsupportedOperationException {
        if (!isOfKindF()) {
            throw new UnsupportedOperationException();
        }
        return rootTable.count;
    }

    public int root(int index, int vertex)
            throws UnsupportedOperationException, NoSuchElementException, IndexOutOfBoundsException {
        if (!isOfKindF()) {
            throw new UnsupportedOperationException();
        }
        if (!rootTable.hasRoot(index)) {
            throw new NoSuchElementException();
        }
        if (!quiver.hasVertex(vertex)) {
            throw new IndexOutOfBoundsException();
        }
        return rootTable.rows[index][vertex];
    }

    public int orbit(int index) throws UnsupportedOperationException, NoSuchElementException {
        if (!isOfKindF()) {
            throw new UnsupportedOperationException();
        }
        if (!rootTable.hasRoot(index)) {
            throw new NoSuchElementException();
        }
        return rootTable.orbitVertices[index] + 10 * rootTable.orbitTimes[index];
    }

    public int translate(int index) throws UnsupportedOperationException, NoSuchElementException {
        if (!isOfKindF()) {
            throw new UnsupportedOperationException();
        }
        if (!rootTable.hasRoot(index)) {
            throw new NoSuchElementException();
        }
        return rootTable.findTranslate(index);
    }

    public int between(int index, int other, boolean areExtensions)
            throws UnsupportedOperationException, NoSuchElementException {
        if (!isOfKindF()) {
            throw new UnsupportedOperationException();
        }
        if (!rootTable.hasRoot(index) || !rootTable.hasRoot(other)) {
            throw new NoSuchElementException();
        }
        int form = quiver.formOf(rootTable.rows[index], rootTable.rows[other]);
        return Math.max(areExtensions ? -form : form, 0);
    }

    public int mesh(int index, int other) throws UnsupportedOperationException, NoSuchElementException {
        if (!isOfKindF()) {
            throw new UnsupportedOperationException();
        }
        if (!rootTable.hasRoot(index) || !rootTable.hasRoot(other)) {
            throw new NoSuchElementException();
        }
        return rootTable.countMeshArrows(index, other);
    }

    public int tilting() throws UnsupportedOperationException {
        if (!isOfKindF()) {
            throw new UnsupportedOperationException();
        }
        return rootTable.countTilting();
    }

    public boolean isTilting(int set) throws UnsupportedOperationException {
        if (!isOfKindF()) {
            throw new UnsupportedOperationException();
        }
        return rootTable.isTiltingSet(set);
    }

    public int mutate(int set, int index)
            throws UnsupportedOperationException, IllegalArgumentException, NoSuchElementException {
        if (!isOfKindF()) {
            throw new UnsupportedOperationException();
        }
        if (!rootTable.isTiltingSet(set) || !rootTable.hasRoot(index) || (set >> index & 1) == 0) {
            throw new IllegalArgumentException();
        }
        int changed = rootTable.exchange(set, index);
        if (changed == 0) {
            throw new NoSuchElementException();
        }
        return changed;
    }

    public int turn(int vertex) throws IndexOutOfBoundsException, UnsupportedOperationException {
        if (!quiver.hasVertex(vertex)) {
            throw new IndexOutOfBoundsException();
        }
        if (quiver.isTwisted() || !cluster.canTurn(vertex)) {
            throw new UnsupportedOperationException();
        }
        cluster.turnAt(vertex);
        return cluster.friezes[vertex];
    }

    public int turned(int vertex, int other) throws IndexOutOfBoundsException, UnsupportedOperationException {
        if (!quiver.hasVertex(vertex) || !quiver.hasVertex(other)) {
            throw new IndexOutOfBoundsException();
        }
        if (quiver.isTwisted()) {
            throw new UnsupportedOperationException();
        }
        return cluster.turns[vertex][other];
    }

    public int frieze(int vertex) throws IndexOutOfBoundsException {
        if (!quiver.hasVertex(vertex)) {
            throw new IndexOutOfBoundsException();
        }
        return cluster.friezes[vertex];
    }

    // ---- figures

    public long checksum(int module) throws IndexOutOfBoundsException {
        if (!hasModule(module)) {
            throw new IndexOutOfBoundsException();
        }
        return modules[module].sumUp();
    }

    public float zeroShare(int module) throws IndexOutOfBoundsException, ArithmeticException {
        if (!hasModule(module)) {
            throw new IndexOutOfBoundsException();
        }
        int all = modules[module].countNumbers(false);
        if (all == 0) {
            throw new ArithmeticException();
        }
        return (float) modules[module].countNumbers(true) / (float) all;
    }

    public double meanDimension() throws ArithmeticException {
        if (moduleCount == 0) {
            throw new ArithmeticException();
        }
        int all = 0;
        for (int i = 0; i < moduleCount; i++) {
            all += modules[i].total;
        }
        return (double) all / (double) moduleCount;
    }

    public boolean isConsistent() {
        for (int i = 0; i < moduleCount; i++) {
            if (modules[i].total <= MOST_AT_VERTEX && canBeCovered(i) && !resolver.isDue(modules[i])) {
                return false;
            }
        }
        if (isOfKindF() && !rootTable.isMeshed()) {
            return false;
        }
        return cluster.isAgainstItself();
    }

    // ---- what the calls share

    private boolean hasModule(int module) {
        return module >= 0 && module < moduleCount;
    }

    private boolean hasEntry(int module, int arrow, int row, int column) {
        if (!hasModule(module) || !quiver.hasArrow(arrow)) {
            return false;
        }
        int rows = modules[module].dims[quiver.to[arrow]];
        int columns = modules[module].dims[quiver.from[arrow]];
        return row >= 0 && row < rows && column >= 0 && column < columns;
    }

    private int numberNewModule() {
        int number = moduleCount;
        moduleCount++;
        return number;
    }

    private void learnQuiver() {
        pathTable.recount();
        rootTable.isKnown = false;
    }

    private void forgetModules() {
        piecesOf = NONE;
        surveyOf = NONE;
    }

    /** Counts the places of the typed walk at each vertex; false if it is no walk. */
    private boolean countPlaces(int vertex) {
        for (int v = 0; v < MOST_VERTICES; v++) {
            dims[v] = v == vertex ? 1 : 0;
        }
        int place = vertex;
        for (int i = 0; i < typedCount; i++) {
            place = quiver.goFrom(place, typed[i]);
            if (place < 0) {
                return false;
            }
            dims[place]++;
        }
        return true;
    }

    private void fillString(Rep module, int vertex) {
        for (int v = 0; v < MOST_VERTICES; v++) {
            dims[v] = 0;
        }
        int place = vertex;
        for (int i = 0; i < typedCount; i++) {
            int slot = dims[place];
            dims[place]++;
            int step = typed[i];
            place = quiver.goFrom(place, step);
            if (place < 0) {
                return;
            }
            if (step > 0) {
                module.put(step - 1, dims[place], slot, 1);
            } else {
                module.put(-step - 1, slot, dims[place], 1);
            }
        }
    }

    private boolean knowPieces(int module) {
        if (piecesOf != module) {
            piecesOf = parts.split(modules[module]) ? module : NONE;
        }
        return piecesOf == module;
    }

    private boolean knowSubmodules(int module) {
        if (surveyOf != module) {
            surveyOf = search.survey(modules[module]) ? module : NONE;
        }
        return surveyOf == module;
    }

    private boolean canBeCovered(int module) {
        return pathTable.isBounded && modules[module].keepsZeros();
    }

    private boolean isOfKindF() {
        return quiver.hasKind() && rootTable.tellKind() == 'f';
    }

    private static boolean areDimensions(int[] numbers, int count) {
        int total = 0;
        for (int v = 0; v < count; v++) {
            if (numbers[v] < 0 || numbers[v] > MOST_AT_VERTEX) {
                return false;
            }
            total += numbers[v];
        }
        return total <= MOST_DIMENSIONS;
    }

    private static boolean haveLikeDimensions(Rep module, Rep other) {
        for (int v = 0; v < MOST_VERTICES; v++) {
            if (module.dims[v] != other.dims[v]) {
                return false;
            }
        }
        return true;
    }

    /** The order of pieces and roots: all dimensions together first, then vertex by vertex. */
    private static boolean isLesser(int[] row, int[] other) {
        int ahead = 0;
        for (int v = 0; v < MOST_VERTICES; v++) {
            ahead += other[v] - row[v];
        }
        for (int v = 0; v < MOST_VERTICES && ahead == 0; v++) {
            ahead = other[v] - row[v];
        }
        return ahead > 0;
    }

    /** Sorts by insertion: the rows are few, and their arrays change places only. */
    private static void sortRows(int[][] rows, int count) {
        for (int i = 1; i < count; i++) {
            for (int j = i; j > 0 && isLesser(rows[j], rows[j - 1]); j--) {
                int[] row = rows[j];
                rows[j] = rows[j - 1];
                rows[j - 1] = row;
            }
        }
    }

    /** The rest of a number that is not below 0; each divisor is written out, so none can be 0. */
    private static int residue(int value, int prime) {
        return prime == 2 ? value & 1 : prime == 3 ? value % 3 : value % 5;
    }

    private static int quotient(int value, int prime) {
        return prime == 2 ? value / 2 : prime == 3 ? value / 3 : value / 5;
    }

    /** Of 1 and 2 modulo 3, and of 1 modulo 2, each is its own inverse; modulo 5 it is the cube. */
    private static int inverse(int value, int prime) {
        return prime == 5 ? value * value * value % 5 : value;
    }

    /** Vertices, arrows, zero paths and the field. */
    private static final class Quiver {
        private final int[] from = new int[MOST_ARROWS];
        private final int[] to = new int[MOST_ARROWS];
        private final int[][] zeros = new int[MOST_ZEROS][LONGEST_ZERO];
        private final int[] zeroLengths = new int[MOST_ZEROS];
        private int vertexCount = 0;
        private int arrowCount = 0;
        private int zeroCount = 0;
        private int prime = 2;

        private boolean hasVertex(int vertex) {
            return vertex >= 0 && vertex < vertexCount;
        }

        private boolean hasArrow(int arrow) {
            return arrow >= 0 && arrow < arrowCount;
        }

        private void addArrow(int start, int end) {
            from[arrowCount] = start;
            to[arrowCount] = end;
            arrowCount++;
        }

        private void addZero(int[] row, int count) {
            for (int i = 0; i < count; i++) {
                zeros[zeroCount][i] = row[i];
            }
            zeroLengths[zeroCount] = count;
            zeroCount++;
        }

        private int countArrows(int start, int end) {
            int count = 0;
            for (int a = 0; a < arrowCount; a++) {
                if (from[a] == start && to[a] == end) {
                    count++;
                }
            }
            return count;
        }

        /** Whether the row is a path that may be told to be zero. */
        private boolean isZeroPath(int[] row, int count) {
            if (count < SHORTEST_ZERO || count > LONGEST_ZERO) {
                return false;
            }
            for (int i = 0; i < count; i++) {
                if (!hasArrow(row[i]) || i > 0 && to[row[i - 1]] != from[row[i]]) {
                    return false;
                }
            }
            return true;
        }

        /** Where a step of a walk leads from a vertex, or none. */
        private int goFrom(int vertex, int step) {
            int arrow = (step < 0 ? -step : step) - 1;
            if (!hasArrow(arrow)) {
                return NONE;
            }
            int start = step > 0 ? from[arrow] : to[arrow];
            int end = step > 0 ? to[arrow] : from[arrow];
            return start == vertex ? end : NONE;
        }

        private boolean isString(int[] steps, int count) {
            for (int i = 0; i + 1 < count; i++) {
                if (steps[i] == -steps[i + 1]) {
                    return false;
                }
            }
            for (int k = 0; k < zeroCount; k++) {
                for (int i = 0; i + zeroLengths[k] <= count; i++) {
                    if (hasZeroAt(steps, i, k)) {
                        return false;
                    }
                }
            }
            return true;
        }

        private boolean hasZeroAt(int[] steps, int start, int told) {
            boolean isAlong = true;
            boolean isAgainst = true;
            int length = zeroLengths[told];
            for (int i = 0; i < length; i++) {
                isAlong = isAlong && steps[start + i] == zeros[told][i] + 1;
                isAgainst = isAgainst && steps[start + i] == -zeros[told][length - 1 - i] - 1;
            }
            return isAlong || isAgainst;
        }

        /** Whether there is a loop, or arrows go either way between two vertices. */
        private boolean isTwisted() {
            for (int a = 0; a < arrowCount; a++) {
                for (int b = 0; b < arrowCount; b++) {
                    if (from[a] == to[b] && to[a] == from[b]) {
                        return true;
                    }
                }
            }
            return false;
        }

        private boolean hasKind() {
            return vertexCount > 0 && zeroCount == 0 && isConnected() && !hasCycle();
        }

        private boolean isConnected() {
            int reached = 1;
            for (int round = 0; round < vertexCount; round++) {
                for (int a = 0; a < arrowCount; a++) {
                    int ends = 1 << from[a] | 1 << to[a];
                    if ((reached & ends) != 0) {
                        reached |= ends;
                    }
                }
            }
            return reached == (1 << vertexCount) - 1;
        }

        /** Takes vertices away at which no arrow ends, until none can be taken; cycles stay. */
        private boolean hasCycle() {
            int left = (1 << vertexCount) - 1;
            for (int round = 0; round < vertexCount; round++) {
                int reached = 0;
                for (int a = 0; a < arrowCount; a++) {
                    if ((left >> from[a] & 1) == 1) {
                        reached |= 1 << to[a];
                    }
                }
                left &= reached;
            }
            return left != 0;
        }

        /** Whether arrows, one each, join the vertices 0 and 1, 1 and 2, and so on. */
        private boolean isLine() {
            if (zeroCount > 0 || arrowCount != vertexCount - 1) {
                return false;
            }
            for (int v = 0; v + 1 < vertexCount; v++) {
                if (countArrows(v, v + 1) + countArrows(v + 1, v) != 1) {
                    return false;
                }
            }
            return true;
        }

        private int formOf(int[] row, int[] other) {
            int form = 0;
            for (int v = 0; v < vertexCount; v++) {
                form += row[v] * other[v];
            }
            for (int a = 0; a < arrowCount; a++) {
                form -= row[from[a]] * other[to[a]];
            }
            return form;
        }
    }

    /**
     * The paths that are not zero, by length, then by where they begin, then by arrows: so those of
     * one beginning, or of one beginning and end, are in the order of projective modules.
     */
    private static final class PathTable {
        private final Quiver quiver;
        private final int[] starts = new int[MOST_PATHS];
        private final int[] ends = new int[MOST_PATHS];
        /** The path without its last arrow, that arrow, and the first one. */
        private final int[] parents = new int[MOST_PATHS];
        private final int[] lasts = new int[MOST_PATHS];
        private final int[] firsts = new int[MOST_PATHS];
        /** The path without its first arrow. */
        private final int[] rests = new int[MOST_PATHS];
        /** The index among the paths of the same beginning and end, and of the same beginning. */
        private final int[] positions = new int[MOST_PATHS];
        private final int[] ordinals = new int[MOST_PATHS];
        private final int[][] children = new int[MOST_PATHS][MOST_ARROWS];
        private final int[][] pairs = new int[MOST_VERTICES][MOST_VERTICES];
        private final int[] startCounts = new int[MOST_VERTICES];
        private int size = 0;
        private boolean isBounded = true;

        private PathTable(Quiver quiver) {
            this.quiver = quiver;
        }

        private void recount() {
            size = 0;
            isBounded = true;
            for (int v = 0; v < MOST_VERTICES; v++) {
                startCounts[v] = 0;
                for (int w = 0; w < MOST_VERTICES; w++) {
                    pairs[v][w] = 0;
                }
            }
            for (int v = 0; v < quiver.vertexCount; v++) {
                add(v, v);
                parents[v] = NONE;
                lasts[v] = NONE;
                firsts[v] = NONE;
                rests[v] = NONE;
            }
            for (int path = 0; path < MOST_PATHS && path < size; path++) {
                for (int a = 0; a < quiver.arrowCount; a++) {
                    children[path][a] = lengthen(path, a);
                }
            }
        }

        /** Adds the path with one more arrow behind, if it is one that is not zero. */
        private int lengthen(int path, int arrow) {
            if (quiver.from[arrow] != ends[path] || endsInZero(path, arrow)) {
                return NONE;
            }
            if (size >= MOST_PATHS) {
                isBounded = false;
                return NONE;
            }
            int child = add(starts[path], quiver.to[arrow]);
            parents[child] = path;
            lasts[child] = arrow;
            boolean isFirst = parents[path] < 0;
            firsts[child] = isFirst ? arrow : firsts[path];
            // The rest of the shorter path was lengthened rounds ago, as it is shorter still.
            rests[child] = isFirst ? quiver.to[arrow] : children[rests[path]][arrow];
            return child;
        }

        private int add(int start, int end) {
            int path = size;
            starts[path] = start;
            ends[path] = end;
            positions[path] = pairs[start][end];
            pairs[start][end]++;
            ordinals[path] = startCounts[start];
            startCounts[start]++;
            size++;
            return path;
        }

        private boolean endsInZero(int path, int arrow) {
            for (int told = 0; told < quiver.zeroCount; told++) {
                int length = quiver.zeroLengths[told];
                boolean isZero = quiver.zeros[told][length - 1] == arrow;
                int part = path;
                for (int i = length - 2; i >= 0 && isZero; i--) {
                    isZero = lasts[part] == quiver.zeros[told][i];
                    part = isZero ? parents[part] : part;
                }
                if (isZero) {
                    return true;
                }
            }
            return false;
        }

        private void fillProjective(Rep module, int vertex) {
            for (int path = 0; path < size; path++) {
                for (int a = 0; a < quiver.arrowCount && starts[path] == vertex; a++) {
                    int child = children[path][a];
                    if (child >= 0) {
                        module.put(a, positions[child], positions[path], 1);
                    }
                }
            }
        }

        private void fillInjective(Rep module, int vertex) {
            for (int path = 0; path < size; path++) {
                if (ends[path] == vertex && firsts[path] >= 0) {
                    module.put(firsts[path], positions[rests[path]], positions[path], 1);
                }
            }
        }
    }

    /** A module: a dimension at each vertex and a matrix for each arrow. */
    private static final class Rep {
        private final Quiver quiver;
        private final int[] dims = new int[MOST_VERTICES];
        private final int[][] matrices;
        private int total = 0;
        private final int[] walker;
        private final int[] walked;

        private Rep(Quiver quiver, int side) {
            this.quiver = quiver;
            matrices = new int[MOST_ARROWS][side * side];
            walker = new int[side];
            walked = new int[side];
        }

        private void shape(int[] wanted) {
            total = 0;
            for (int v = 0; v < MOST_VERTICES; v++) {
                dims[v] = v < quiver.vertexCount ? wanted[v] : 0;
                total += dims[v];
            }
            for (int a = 0; a < quiver.arrowCount; a++) {
                int count = countIn(a);
                for (int i = 0; i < count; i++) {
                    matrices[a][i] = 0;
                }
            }
        }

        private void copyFrom(Rep other) {
            shape(other.dims);
            for (int a = 0; a < quiver.arrowCount; a++) {
                int count = countIn(a);
                for (int i = 0; i < count; i++) {
                    matrices[a][i] = other.matrices[a][i];
                }
            }
        }

        private int countIn(int arrow) {
            return dims[quiver.to[arrow]] * dims[quiver.from[arrow]];
        }

        private int at(int arrow, int row, int column) {
            return matrices[arrow][row * dims[quiver.from[arrow]] + column];
        }

        private void put(int arrow, int row, int column, int value) {
            matrices[arrow][row * dims[quiver.from[arrow]] + column] = value;
        }

        private void fillSum(Rep first, Rep second) {
            for (int a = 0; a < quiver.arrowCount; a++) {
                fillBlock(a, first, 0, 0);
                fillBlock(a, second, first.dims[quiver.to[a]], first.dims[quiver.from[a]]);
            }
        }

        private void fillBlock(int arrow, Rep part, int firstRow, int firstColumn) {
            for (int i = 0; i < part.dims[quiver.to[arrow]]; i++) {
                for (int j = 0; j < part.dims[quiver.from[arrow]]; j++) {
                    put(arrow, firstRow + i, firstColumn + j, part.at(arrow, i, j));
                }
            }
        }

        /** Takes the vector that starts at an index of a row along an arrow, into another row. */
        private void carry(int arrow, int[] row, int start, int[] result) {
            int[] matrix = matrices[arrow];
            int prime = quiver.prime;
            int columns = dims[quiver.from[arrow]];
            for (int i = 0; i < dims[quiver.to[arrow]]; i++) {
                int sum = 0;
                for (int j = 0; j < columns; j++) {
                    sum += matrix[i * columns + j] * row[start + j];
                }
                result[i] = prime == 2 ? sum & 1 : prime == 3 ? sum % 3 : sum % 5;
            }
        }

        /** Whether all relations hold. */
        private boolean keepsZeros() {
            for (int told = 0; told < quiver.zeroCount; told++) {
                int start = quiver.from[quiver.zeros[told][0]];
                for (int j = 0; j < dims[start]; j++) {
                    if (!vanishes(told, start, j)) {
                        return false;
                    }
                }
            }
            return true;
        }

        private boolean vanishes(int told, int start, int basic) {
            for (int i = 0; i < dims[start]; i++) {
                walker[i] = i == basic ? 1 : 0;
            }
            int end = start;
            for (int step = 0; step < quiver.zeroLengths[told]; step++) {
                int arrow = quiver.zeros[told][step];
                carry(arrow, walker, 0, walked);
                end = quiver.to[arrow];
                for (int i = 0; i < dims[end]; i++) {
                    walker[i] = walked[i];
                }
            }
            for (int i = 0; i < dims[end]; i++) {
                if (walker[i] != 0) {
                    return false;
                }
            }
            return true;
        }

        private long sumUp() {
            long sum = 11;
            for (int v = 0; v < quiver.vertexCount; v++) {
                sum = 31 * sum + dims[v];
            }
            for (int a = 0; a < quiver.arrowCount; a++) {
                int count = countIn(a);
                for (int i = 0; i < count; i++) {
                    sum = 31 * sum + matrices[a][i];
                }
            }
            return sum;
        }

        private int countNumbers(boolean isForZeros) {
            int numbers = 0;
            for (int a = 0; a < quiver.arrowCount; a++) {
                int count = countIn(a);
                for (int i = 0; i < count; i++) {
                    if (!isForZeros || matrices[a][i] == 0) {
                        numbers++;
                    }
                }
            }
            return numbers;
        }
    }

    /**
     * Rows over the field, reduced wholly at all times: each begins with a 1, above and below which
     * all is 0. A vector is composed in place and then absorbed.
     */
    private static final class Echelon {
        private final Quiver quiver;
        private final int[][] rows;
        /** The column of each row's first number, and the row that begins at each column. */
        private final int[] leads;
        private final int[] rowOf;
        private final int[] vector;
        private int width = 0;
        private int count = 0;

        private Echelon(Quiver quiver, int room) {
            this.quiver = quiver;
            rows = new int[room][room];
            leads = new int[room];
            rowOf = new int[room];
            vector = new int[room];
        }

        private void begin(int columns) {
            width = Math.min(columns, vector.length);
            count = 0;
            for (int c = 0; c < width; c++) {
                rowOf[c] = NONE;
                vector[c] = 0;
            }
        }

        private void addAt(int column, int value) {
            vector[column] = residue(vector[column] + value, quiver.prime);
        }

        /** Takes the vector in, if it is new; leaves an empty vector either way. */
        private boolean absorb() {
            for (int c = 0; c < width; c++) {
                if (vector[c] != 0 && rowOf[c] >= 0) {
                    subtract(rows[rowOf[c]], vector[c], vector);
                }
            }
            int lead = 0;
            while (lead < width && vector[lead] == 0) {
                lead++;
            }
            if (lead >= width) {
                return false;
            }
            int factor = inverse(vector[lead], quiver.prime);
            for (int c = 0; c < width; c++) {
                rows[count][c] = residue(vector[c] * factor, quiver.prime);
                vector[c] = 0;
            }
            for (int r = 0; r < count; r++) {
                if (rows[r][lead] != 0) {
                    subtract(rows[count], rows[r][lead], rows[r]);
                }
            }
            leads[count] = lead;
            rowOf[lead] = count;
            count++;
            return true;
        }

        private void subtract(int[] row, int factor, int[] target) {
            int prime = quiver.prime;
            int against = prime - factor;
            for (int c = 0; c < width; c++) {
                if (row[c] != 0) {
                    // The rest is written out: this is the innermost loop of nearly every call.
                    int sum = target[c] + against * row[c];
                    target[c] = prime == 2 ? sum & 1 : prime == 3 ? sum % 3 : sum % 5;
                }
            }
        }

        /**
         * The number at a column of the solution that is 1 at a column where no row begins, and 0 at
         * all others of these, the rows being equations.
         */
        private int solve(int free, int column) {
            int row = rowOf[column];
            if (row < 0) {
                return column == free ? 1 : 0;
            }
            return residue(quiver.prime - rows[row][free], quiver.prime);
        }

        private int rankOf(Rep module, int arrow) {
            begin(module.dims[quiver.from[arrow]]);
            takeRows(module, arrow);
            return count;
        }

        /** Takes all that arrows bring to a vertex, and answers its dimension. */
        private int takeRadical(Rep module, int vertex) {
            begin(module.dims[vertex]);
            for (int a = 0; a < quiver.arrowCount; a++) {
                int columns = quiver.to[a] == vertex ? module.dims[quiver.from[a]] : 0;
                for (int j = 0; j < columns; j++) {
                    for (int i = 0; i < width; i++) {
                        vector[i] = module.at(a, i, j);
                    }
                    absorb();
                }
            }
            return count;
        }

        /** Takes the equations of what all arrows from a vertex take to 0, and answers their rank. */
        private int takeLeaving(Rep module, int vertex) {
            begin(module.dims[vertex]);
            for (int a = 0; a < quiver.arrowCount; a++) {
                if (quiver.from[a] == vertex) {
                    takeRows(module, a);
                }
            }
            return count;
        }

        private void takeRows(Rep module, int arrow) {
            for (int i = 0; i < module.dims[quiver.to[arrow]]; i++) {
                for (int j = 0; j < width; j++) {
                    vector[j] = module.at(arrow, i, j);
                }
                absorb();
            }
        }
    }

    /**
     * A space at each vertex of a module. Each basis vector has a mark, a place where it is 1 and
     * all others are 0: so a vector's numbers at the marks are its coordinates.
     */
    private static final class Spaces {
        private final Quiver quiver;
        private final int[][] vectors = new int[MOST_VERTICES][MATRIX_ROOM];
        private final int[][] marks = new int[MOST_VERTICES][MOST_AT_VERTEX];
        private final int[] sizes = new int[MOST_VERTICES];
        private final int[] carried = new int[MOST_AT_VERTEX];

        private Spaces(Quiver quiver) {
            this.quiver = quiver;
        }

        private int countAll() {
            int all = 0;
            for (int v = 0; v < quiver.vertexCount; v++) {
                all += sizes[v];
            }
            return all;
        }

        /** Keeps what the rows of an echelon span. */
        private void keepRows(int vertex, Echelon echelon) {
            sizes[vertex] = echelon.count;
            for (int i = 0; i < echelon.count; i++) {
                marks[vertex][i] = echelon.leads[i];
                for (int c = 0; c < echelon.width; c++) {
                    vectors[vertex][i * MOST_AT_VERTEX + c] = echelon.rows[i][c];
                }
            }
        }

        /** Keeps what solves the rows of an echelon as equations. */
        private void keepKernel(int vertex, Echelon echelon) {
            int size = 0;
            for (int free = 0; free < echelon.width; free++) {
                if (echelon.rowOf[free] < 0) {
                    for (int c = 0; c < echelon.width; c++) {
                        vectors[vertex][size * MOST_AT_VERTEX + c] = echelon.solve(free, c);
                    }
                    marks[vertex][size] = free;
                    size++;
                }
            }
            sizes[vertex] = size;
        }

        private void keepAll(Rep module) {
            for (int v = 0; v < quiver.vertexCount; v++) {
                keepReduced(v, module.dims[v], (1 << module.dims[v]) - 1, 0);
            }
        }

        /**
         * Keeps the space whose reduced rows begin at the columns of a mask, the numbers that are
         * free in them being the digits of the filling.
         */
        private void keepReduced(int vertex, int width, int mask, int filling) {
            int size = 0;
            int left = filling;
            for (int lead = 0; lead < width; lead++) {
                if ((mask >> lead & 1) == 1) {
                    for (int c = 0; c < width; c++) {
                        boolean isFree = c > lead && (mask >> c & 1) == 0;
                        int next = isFree ? quotient(left, quiver.prime) : left;
                        int digit = isFree ? left - next * quiver.prime : c == lead ? 1 : 0;
                        vectors[vertex][size * MOST_AT_VERTEX + c] = digit;
                        left = next;
                    }
                    marks[vertex][size] = lead;
                    size++;
                }
            }
            sizes[vertex] = size;
        }

        /** Whether an arrow goes within these spaces. */
        private boolean isClosed(Rep module, int arrow) {
            int start = quiver.from[arrow];
            for (int j = 0; j < sizes[start]; j++) {
                module.carry(arrow, vectors[start], j * MOST_AT_VERTEX, carried);
                if (!hasCarried(quiver.to[arrow], module.dims[quiver.to[arrow]])) {
                    return false;
                }
            }
            return true;
        }

        private boolean hasCarried(int vertex, int width) {
            int prime = quiver.prime;
            for (int c = 0; c < width; c++) {
                int sum = 0;
                for (int i = 0; i < sizes[vertex]; i++) {
                    sum += carried[marks[vertex][i]] * vectors[vertex][i * MOST_AT_VERTEX + c];
                }
                int rest = prime == 2 ? sum & 1 : prime == 3 ? sum % 3 : sum % 5;
                if (rest != carried[c]) {
                    return false;
                }
            }
            return true;
        }

        /** Fills the module that these spaces, within which all arrows go, are by themselves. */
        private void fillRestricted(Rep module, Rep result) {
            result.shape(sizes);
            for (int a = 0; a < quiver.arrowCount; a++) {
                int start = quiver.from[a];
                int end = quiver.to[a];
                for (int j = 0; j < sizes[start]; j++) {
                    module.carry(a, vectors[start], j * MOST_AT_VERTEX, carried);
                    for (int i = 0; i < sizes[end]; i++) {
                        result.put(a, i, j, carried[marks[end][i]]);
                    }
                }
            }
        }
    }

    /** The maps of a module to another one: the numbers of all matrices in one row, as unknowns. */
    private static final class MapSpace {
        private final Quiver quiver;
        private final Echelon echelon;
        private final Echelon small;
        private final int[] starts = new int[MOST_VERTICES];
        private final int[][] basis = new int[MOST_BASIC_MAPS][MAP_ROOM];
        private final int[] factors = new int[MOST_BASIC_MAPS];
        private final int[] map = new int[MAP_ROOM];
        private Rep source;
        private Rep target;
        private int size = 0;
        private int dimension = 0;

        private MapSpace(Quiver quiver, Echelon echelon) {
            this.quiver = quiver;
            this.echelon = echelon;
            small = new Echelon(quiver, MOST_AT_VERTEX);
            source = new Rep(quiver, 0);
            target = source;
        }

        private int measure(Rep one, Rep other) {
            source = one;
            target = other;
            size = 0;
            for (int v = 0; v < quiver.vertexCount; v++) {
                starts[v] = size;
                size += one.dims[v] * other.dims[v];
            }
            echelon.begin(size);
            for (int a = 0; a < quiver.arrowCount; a++) {
                for (int i = 0; i < other.dims[quiver.to[a]]; i++) {
                    for (int j = 0; j < one.dims[quiver.from[a]]; j++) {
                        addSquare(a, i, j);
                    }
                }
            }
            dimension = size - echelon.count;
            return dimension;
        }

        /** One number of the square: the arrow behind the map is the map behind the arrow. */
        private void addSquare(int arrow, int row, int column) {
            int from = quiver.from[arrow];
            int to = quiver.to[arrow];
            for (int k = 0; k < target.dims[from]; k++) {
                echelon.addAt(starts[from] + k * source.dims[from] + column, target.at(arrow, row, k));
            }
            for (int k = 0; k < source.dims[to]; k++) {
                int value = quiver.prime - source.at(arrow, k, column);
                echelon.addAt(starts[to] + row * source.dims[to] + k, value);
            }
            echelon.absorb();
        }

        private boolean hasTooMany(int dimensions) {
            int maps = 1;
            for (int i = 0; i < dimensions && maps <= MOST_MAPS; i++) {
                maps *= quiver.prime;
            }
            return maps > MOST_MAPS;
        }

        /** Begins at the map that is 0; only for spaces of not too many maps. */
        private void beginMaps() {
            int count = 0;
            for (int free = 0; free < size && count < MOST_BASIC_MAPS; free++) {
                if (echelon.rowOf[free] < 0) {
                    for (int c = 0; c < size; c++) {
                        basis[count][c] = echelon.solve(free, c);
                    }
                    factors[count] = 0;
                    count++;
                }
            }
            for (int c = 0; c < size; c++) {
                map[c] = 0;
            }
        }

        /** Goes on as a counter does: a factor that comes round to 0 carries to the next one. */
        private boolean nextMap() {
            for (int i = 0; i < dimension; i++) {
                for (int c = 0; c < size; c++) {
                    map[c] = residue(map[c] + basis[i][c], quiver.prime);
                }
                factors[i] = residue(factors[i] + 1, quiver.prime);
                if (factors[i] != 0) {
                    return true;
                }
            }
            return false;
        }

        private boolean hasInvertible() {
            beginMaps();
            for (int n = 0; n < MOST_MAPS; n++) {
                if (isInvertible()) {
                    return true;
                }
                if (!nextMap()) {
                    return false;
                }
            }
            return false;
        }

        private boolean isInvertible() {
            for (int v = 0; v < quiver.vertexCount; v++) {
                int side = source.dims[v];
                small.begin(side);
                for (int i = 0; i < side; i++) {
                    for (int j = 0; j < side; j++) {
                        small.vector[j] = map[starts[v] + i * side + j];
                    }
                    if (!small.absorb()) {
                        return false;
                    }
                }
            }
            return true;
        }
    }

    /** The layers of a module and the pieces that it splits into. */
    private static final class Parts {
        private final Quiver quiver;
        private final Echelon echelon;
        private final MapSpace maps;
        private final Spaces first;
        private final Spaces second;
        /** What is still to be split, the last one first. */
        private final Rep[] waiting = new Rep[MOST_DIMENSIONS + 1];
        private final Rep spare;
        private final int[] power = new int[MATRIX_ROOM];
        private final int[] squared = new int[MATRIX_ROOM];
        private final int[][] pieceRows = new int[MOST_DIMENSIONS][MOST_VERTICES];
        private int pieceCount = 0;

        private Parts(Quiver quiver, Echelon echelon, MapSpace maps) {
            this.quiver = quiver;
            this.echelon = echelon;
            this.maps = maps;
            first = new Spaces(quiver);
            second = new Spaces(quiver);
            spare = new Rep(quiver, MOST_AT_VERTEX);
            for (int i = 0; i < waiting.length; i++) {
                waiting[i] = new Rep(quiver, MOST_AT_VERTEX);
            }
        }

        /** The number of layers, or none, if a radical is its own radical without being 0. */
        private int countLayers(Rep module) {
            Spaces held = first;
            Spaces radical = second;
            held.keepAll(module);
            for (int layers = 0; layers <= MOST_DIMENSIONS; layers++) {
                int all = held.countAll();
                if (all == 0) {
                    return layers;
                }
                for (int v = 0; v < quiver.vertexCount; v++) {
                    keepRadical(module, held, v, radical);
                }
                if (radical.countAll() == all) {
                    return NONE;
                }
                Spaces other = held;
                held = radical;
                radical = other;
            }
            return NONE;
        }

        private void keepRadical(Rep module, Spaces held, int vertex, Spaces radical) {
            echelon.begin(module.dims[vertex]);
            for (int a = 0; a < quiver.arrowCount; a++) {
                if (quiver.to[a] == vertex) {
                    int from = quiver.from[a];
                    for (int j = 0; j < held.sizes[from]; j++) {
                        module.carry(a, held.vectors[from], j * MOST_AT_VERTEX, echelon.vector);
                        echelon.absorb();
                    }
                }
            }
            radical.keepRows(vertex, echelon);
        }

        /** Finds the pieces; false if there are too many maps of the module to itself. */
        private boolean split(Rep module) {
            if (maps.hasTooMany(maps.measure(module, module))) {
                return false;
            }
            pieceCount = 0;
            waiting[0].copyFrom(module);
            int held = module.total > 0 ? 1 : 0;
            for (int step = 0; step < 2 * MOST_DIMENSIONS && held > 0; step++) {
                Rep whole = waiting[held - 1];
                maps.measure(whole, whole);
                if (held < waiting.length && findSplit(whole)) {
                    keepSplit(whole);
                    second.fillRestricted(whole, waiting[held]);
                    first.fillRestricted(whole, spare);
                    whole.copyFrom(spare);
                    held++;
                } else {
                    addPiece(whole);
                    held--;
                }
            }
            sortRows(pieceRows, pieceCount);
            return true;
        }

        private void addPiece(Rep module) {
            if (pieceCount < pieceRows.length) {
                for (int v = 0; v < MOST_VERTICES; v++) {
                    pieceRows[pieceCount][v] = module.dims[v];
                }
                pieceCount++;
            }
        }

        /**
         * Looks, among the maps measured last, for one that is neither invertible nor 0 once it is
         * taken often enough: its fourth power, as no dimension is above 4, splits the module into
         * image and kernel. A module that can be split has such a map: one that is its own square.
         */
        private boolean findSplit(Rep module) {
            maps.beginMaps();
            for (int n = 0; n < MOST_MAPS; n++) {
                int rank = 0;
                for (int v = 0; v < quiver.vertexCount; v++) {
                    takePower(v, module.dims[v]);
                    reducePower(module.dims[v], false);
                    rank += maps.small.count;
                }
                if (rank > 0 && rank < module.total) {
                    return true;
                }
                if (!maps.nextMap()) {
                    return false;
                }
            }
            return false;
        }

        /** Composes the fourth power of the map at a vertex. */
        private void takePower(int vertex, int side) {
            for (int i = 0; i < side * side; i++) {
                power[i] = maps.map[maps.starts[vertex] + i];
            }
            square(power, squared, side);
            square(squared, power, side);
        }

        private void square(int[] matrix, int[] result, int side) {
            for (int i = 0; i < side; i++) {
                for (int j = 0; j < side; j++) {
                    int sum = 0;
                    for (int k = 0; k < side; k++) {
                        sum += matrix[i * side + k] * matrix[k * side + j];
                    }
                    result[i * side + j] = residue(sum, quiver.prime);
                }
            }
        }

        private void reducePower(int side, boolean isByColumns) {
            maps.small.begin(side);
            for (int i = 0; i < side; i++) {
                for (int j = 0; j < side; j++) {
                    maps.small.vector[j] = isByColumns ? power[j * side + i] : power[i * side + j];
                }
                maps.small.absorb();
            }
        }

        private void keepSplit(Rep module) {
            for (int v = 0; v < quiver.vertexCount; v++) {
                takePower(v, module.dims[v]);
                reducePower(module.dims[v], false);
                second.keepKernel(v, maps.small);
                reducePower(module.dims[v], true);
                first.keepRows(v, maps.small);
            }
        }

        private int countBars(int from, int to) {
            int count = 0;
            for (int i = 0; i < pieceCount; i++) {
                boolean isBar = true;
                for (int v = 0; v < MOST_VERTICES; v++) {
                    isBar = isBar && pieceRows[i][v] == (v >= from && v <= to ? 1 : 0);
                }
                if (isBar) {
                    count++;
                }
            }
            return count;
        }
    }

    /** Covers of a module and its syzygies, one after the other. */
    private static final class Resolver {
        private final Quiver quiver;
        private final PathTable table;
        private final Echelon echelon;
        private final MapSpace maps;
        /** Syzygies take turns in these two. */
        private final Rep odd;
        private final Rep even;
        private Rep current;
        private int steps = 0;
        /** How many projective modules of each vertex the cover has. */
        private final int[] generators = new int[MOST_VERTICES];
        /** The basis of the cover: a path behind a generator, its place, and what it is taken to. */
        private final int[] elementPaths = new int[MOST_COVER];
        private final int[] elementParents = new int[MOST_COVER];
        private final int[] elementSlots = new int[MOST_COVER];
        private final int[][] slotElements = new int[MOST_VERTICES][MOST_COVER];
        private final int[][] images = new int[MOST_COVER][MOST_COVER];
        private final int[] coverDims = new int[MOST_VERTICES];
        private int coverTotal = 0;
        private final int[][] kernels = new int[MOST_VERTICES][MOST_COVER * MOST_COVER];
        private final int[][] kernelMarks = new int[MOST_VERTICES][MOST_COVER];
        private final int[] kernelSizes = new int[MOST_VERTICES];

        private Resolver(Quiver quiver, PathTable table, Echelon echelon, MapSpace maps) {
            this.quiver = quiver;
            this.table = table;
            this.echelon = echelon;
            this.maps = maps;
            odd = new Rep(quiver, MOST_COVER);
            even = new Rep(quiver, MOST_COVER);
            current = even;
        }

        /** Takes the syzygy so many times; false if a cover that is met is too great. */
        private boolean goTo(Rep module, int times) {
            current = module;
            steps = 0;
            for (int i = 0; i < times; i++) {
                if (!advance()) {
                    return false;
                }
            }
            return true;
        }

        /** Takes syzygies until one is 0 or too many are taken; false as for goTo. */
        private boolean resolve(Rep module) {
            current = module;
            steps = 0;
            for (int i = 0; i <= MOST_SYZYGIES && current.total > 0; i++) {
                if (!advance()) {
                    return false;
                }
            }
            return true;
        }

        private boolean advance() {
            if (!cover(current)) {
                return false;
            }
            for (int v = 0; v < quiver.vertexCount; v++) {
                takeKernel(current, v);
            }
            Rep next = current == odd ? even : odd;
            fillSyzygy(next);
            current = next;
            steps++;
            return true;
        }

        private boolean cover(Rep module) {
            coverTotal = 0;
            for (int v = 0; v < MOST_VERTICES; v++) {
                generators[v] = 0;
                coverDims[v] = 0;
            }
            for (int v = 0; v < quiver.vertexCount; v++) {
                echelon.takeRadical(module, v);
                for (int c = 0; c < module.dims[v]; c++) {
                    // Where no row of the radical begins, a basis vector is new in the top.
                    if (echelon.rowOf[c] < 0) {
                        if (coverTotal + table.startCounts[v] > MOST_COVER) {
                            return false;
                        }
                        addGenerator(module, v, c);
                    }
                }
            }
            return true;
        }

        private void addGenerator(Rep module, int vertex, int basic) {
            int base = coverTotal;
            for (int i = 0; i < module.dims[vertex]; i++) {
                images[base][i] = i == basic ? 1 : 0;
            }
            for (int path = 0; path < table.size; path++) {
                if (table.starts[path] == vertex) {
                    addElement(module, base, path);
                }
            }
            generators[vertex]++;
        }

        private void addElement(Rep module, int base, int path) {
            int element = coverTotal;
            int end = table.ends[path];
            int shorter = table.parents[path];
            elementPaths[element] = path;
            elementParents[element] = shorter < 0 ? NONE : base + table.ordinals[shorter];
            if (shorter >= 0) {
                module.carry(table.lasts[path], images[elementParents[element]], 0, images[element]);
            }
            elementSlots[element] = coverDims[end];
            slotElements[end][coverDims[end]] = element;
            coverDims[end]++;
            coverTotal++;
        }

        private void takeKernel(Rep module, int vertex) {
            echelon.begin(coverDims[vertex]);
            for (int i = 0; i < module.dims[vertex]; i++) {
                for (int slot = 0; slot < coverDims[vertex]; slot++) {
                    echelon.vector[slot] = images[slotElements[vertex][slot]][i];
                }
                echelon.absorb();
            }
            int size = 0;
            for (int free = 0; free < coverDims[vertex]; free++) {
                if (echelon.rowOf[free] < 0) {
                    for (int c = 0; c < coverDims[vertex]; c++) {
                        kernels[vertex][size * MOST_COVER + c] = echelon.solve(free, c);
                    }
                    kernelMarks[vertex][size] = free;
                    size++;
                }
            }
            kernelSizes[vertex] = size;
        }

        /**
         * An arrow takes a kernel vector's number at a path to that path with the arrow behind; the
         * coordinates of what comes out are its numbers at the marks.
         */
        private void fillSyzygy(Rep result) {
            result.shape(kernelSizes);
            for (int a = 0; a < quiver.arrowCount; a++) {
                int from = quiver.from[a];
                int to = quiver.to[a];
                for (int i = 0; i < kernelSizes[to]; i++) {
                    int element = slotElements[to][kernelMarks[to][i]];
                    if (table.lasts[elementPaths[element]] == a) {
                        int slot = elementSlots[elementParents[element]];
                        for (int j = 0; j < kernelSizes[from]; j++) {
                            result.put(a, i, j, kernels[from][j * MOST_COVER + slot]);
                        }
                    }
                }
            }
        }

        /** By the first syzygy, which has been gone to; a map of a projective one is a vector. */
        private int countExtensions(Rep module, Rep other) {
            int count = maps.measure(current, other) + maps.measure(module, other);
            for (int v = 0; v < quiver.vertexCount; v++) {
                count -= generators[v] * other.dims[v];
            }
            return count;
        }

        /** Whether cover and syzygy have the dimensions that are due, unless the cover is too great. */
        private boolean isDue(Rep module) {
            current = module;
            if (!advance()) {
                return true;
            }
            for (int v = 0; v < quiver.vertexCount; v++) {
                int due = 0;
                for (int u = 0; u < quiver.vertexCount; u++) {
                    due += (module.dims[u] - echelon.takeRadical(module, u)) * table.pairs[u][v];
                }
                if (coverDims[v] != due || kernelSizes[v] != due - module.dims[v]) {
                    return false;
                }
            }
            return true;
        }
    }

    /** All ways to take a space at each vertex, and which of them are submodules. */
    private static final class SpaceSearch {
        private final Quiver quiver;
        private final int[] weights;
        private final Spaces spaces;
        private Rep module;
        /** The dimensions to take, or null for all. */
        private int[] wanted = null;
        private int found = 0;
        /** By dimensions together: the greatest weight of a submodule, and its dimensions. */
        private final boolean[] isMet = new boolean[MOST_DIMENSIONS + 1];
        private final int[] greatest = new int[MOST_DIMENSIONS + 1];
        private final int[][] greatestRows = new int[MOST_DIMENSIONS + 1][MOST_VERTICES];
        private final int[][] stepRows = new int[MOST_DIMENSIONS][MOST_VERTICES];
        private int stepCount = 0;
        private char slopeKind = 's';

        private SpaceSearch(Quiver quiver, int[] weights) {
            this.quiver = quiver;
            this.weights = weights;
            spaces = new Spaces(quiver);
            module = new Rep(quiver, 0);
        }

        /** The ways to take a space of given dimensions, or of any if none are given. */
        private int countWaysOf(Rep whole, int[] dims) {
            int ways = 1;
            for (int v = 0; v < quiver.vertexCount; v++) {
                int here = 0;
                for (int d = 0; d <= whole.dims[v]; d++) {
                    here += dims == null || dims[v] == d ? countSpaces(whole.dims[v], d) : 0;
                }
                ways *= here;
            }
            return ways;
        }

        /** The spaces of a dimension within a width, counted by where their reduced rows begin. */
        private int countSpaces(int width, int dimension) {
            int count = 0;
            for (int mask = 0; mask < 1 << width; mask++) {
                if (Integer.bitCount(mask) == dimension) {
                    count += countFillings(width, mask);
                }
            }
            return count;
        }

        private int countFillings(int width, int mask) {
            int count = 1;
            for (int lead = 0; lead < width; lead++) {
                for (int c = lead + 1; c < width; c++) {
                    if ((mask >> lead & 1) == 1 && (mask >> c & 1) == 0) {
                        count *= quiver.prime;
                    }
                }
            }
            return count;
        }

        private int countSubmodules(Rep whole, int[] dims) {
            module = whole;
            wanted = dims;
            found = 0;
            // Without a way there is none; the search would go through those of the first vertices.
            if (countWaysOf(whole, dims) > 0) {
                choose(this, 0);
            }
            return found;
        }

        /**
         * Goes through all submodules for the slopes; false if there are too many ways. What it finds
         * out is kept, whatever is counted afterwards.
         */
        private boolean survey(Rep whole) {
            if (countWaysOf(whole, null) > MOST_WAYS) {
                return false;
            }
            for (int d = 0; d <= MOST_DIMENSIONS; d++) {
                isMet[d] = false;
            }
            module = whole;
            wanted = null;
            choose(this, 0);
            filter();
            slopeKind = compareSlopes();
            return true;
        }

        /** Takes each space at a vertex, then at the next ones: five levels at most. */
        private static void choose(SpaceSearch search, int vertex) {
            if (vertex >= search.quiver.vertexCount) {
                search.takeSubmodule();
                return;
            }
            int width = search.module.dims[vertex];
            for (int mask = 0; mask < 1 << width; mask++) {
                int fillings = search.isWanted(vertex, mask) ? search.countFillings(width, mask) : 0;
                for (int filling = 0; filling < fillings; filling++) {
                    search.spaces.keepReduced(vertex, width, mask, filling);
                    if (search.isClosedUpTo(vertex)) {
                        choose(search, vertex + 1);
                    }
                }
            }
        }

        private boolean isWanted(int vertex, int mask) {
            return wanted == null || Integer.bitCount(mask) == wanted[vertex];
        }

        private void takeSubmodule() {
            found++;
            if (wanted == null) {
                weigh();
            }
        }

        private boolean isClosedUpTo(int vertex) {
            for (int a = 0; a < quiver.arrowCount; a++) {
                if (Math.max(quiver.from[a], quiver.to[a]) == vertex && !spaces.isClosed(module, a)) {
                    return false;
                }
            }
            return true;
        }

        private void weigh() {
            int all = 0;
            int weight = 0;
            for (int v = 0; v < quiver.vertexCount; v++) {
                all += spaces.sizes[v];
                weight += spaces.sizes[v] * weights[v];
            }
            if (!isMet[all] || weight > greatest[all]) {
                isMet[all] = true;
                greatest[all] = weight;
                for (int v = 0; v < quiver.vertexCount; v++) {
                    greatestRows[all][v] = spaces.sizes[v];
                }
            }
        }

        /** Slopes are compared by products across, as no dimensions are below 0. */
        private char compareSlopes() {
            char told = 's';
            int all = module.total;
            for (int d = 1; d < all; d++) {
                int ahead = isMet[d] ? greatest[d] * all - greatest[all] * d : NONE;
                if (ahead > 0) {
                    return 'u';
                }
                if (ahead == 0) {
                    told = 'm';
                }
            }
            return told;
        }

        /**
         * The steps of the finest filtration are the corners of the least roof over the points of
         * dimension and weight of all submodules: each next corner has the greatest slope from the
         * last one, and of those with this slope the greatest dimension.
         */
        private void filter() {
            stepCount = 0;
            int last = 0;
            while (last < module.total && stepCount < stepRows.length) {
                int next = module.total;
                for (int d = module.total - 1; d > last; d--) {
                    if (isMet[d] && rise(last, d) * (next - last) > rise(last, next) * (d - last)) {
                        next = d;
                    }
                }
                for (int v = 0; v < MOST_VERTICES; v++) {
                    int below = v < quiver.vertexCount ? greatestRows[last][v] : 0;
                    stepRows[stepCount][v] = v < quiver.vertexCount ? greatestRows[next][v] - below : 0;
                }
                stepCount++;
                last = next;
            }
        }

        private int rise(int low, int high) {
            return greatest[high] - greatest[low];
        }
    }

    /** The roots of a quiver of kind f, their orbits and their tilting sets. */
    private static final class RootTable {
        private final Quiver quiver;
        private final PathTable table;
        private final int[][] rows = new int[ROOT_ROOM][MOST_VERTICES];
        private final int[] orbitVertices = new int[ROOT_ROOM];
        private final int[] orbitTimes = new int[ROOT_ROOM];
        /** For each root the bits of those with which it has no extensions either way. */
        private final int[] friends = new int[ROOT_ROOM];
        private final int[][] joins = new int[MOST_VERTICES][MOST_VERTICES];
        private final int[] row = new int[MOST_VERTICES];
        private final int[] basic = new int[MOST_VERTICES];
        private final int[] pulled = new int[MOST_VERTICES];
        private int count = 0;
        private int lowest = 0;
        private boolean isKnown = false;

        private RootTable(Quiver quiver, PathTable table) {
            this.quiver = quiver;
            this.table = table;
        }

        private boolean hasRoot(int index) {
            return index >= 0 && index < count;
        }

        /** The kind, for a quiver that has one; what roots need is learnt by the way. */
        private char tellKind() {
            if (!isKnown) {
                learn();
                isKnown = true;
            }
            return lowest > 0 ? 'f' : lowest == 0 ? 't' : 'w';
        }

        private void learn() {
            count = 0;
            lowest = 1;
            for (int v = 0; v < MOST_VERTICES; v++) {
                row[v] = 0;
                for (int w = 0; w < MOST_VERTICES; w++) {
                    joins[v][w] = quiver.countArrows(v, w) + quiver.countArrows(w, v);
                }
            }
            tryRows(this, 0, 0, 0);
            if (lowest > 0) {
                sortRows(rows, count);
                findOrbits();
                findFriends();
            }
        }

        /** Goes through all rows, vertex by vertex: five levels at most. */
        private static void tryRows(RootTable roots, int vertex, int form, int all) {
            if (vertex >= roots.quiver.vertexCount) {
                if (all > 0) {
                    roots.keepRow(form);
                }
                return;
            }
            int joined = 0;
            for (int v = 0; v < vertex; v++) {
                joined += roots.joins[v][vertex] * roots.row[v];
            }
            for (int number = 0; number <= GREATEST_ROOT_NUMBER; number++) {
                roots.row[vertex] = number;
                tryRows(roots, vertex + 1, form + number * number - number * joined, all + number);
            }
        }

        private void keepRow(int form) {
            lowest = Math.min(lowest, form);
            if (form == 1 && count < ROOT_ROOM) {
                for (int v = 0; v < MOST_VERTICES; v++) {
                    rows[count][v] = v < quiver.vertexCount ? row[v] : 0;
                }
                count++;
            }
        }

        private void findOrbits() {
            for (int i = 0; i < count; i++) {
                orbitVertices[i] = NONE;
                orbitTimes[i] = NONE;
            }
            for (int v = 0; v < quiver.vertexCount; v++) {
                for (int w = 0; w < MOST_VERTICES; w++) {
                    row[w] = table.pairs[v][w];
                }
                int index = findRow();
                for (int time = 0; time < ROOT_ROOM && index >= 0; time++) {
                    orbitVertices[index] = v;
                    orbitTimes[index] = time;
                    move(rows[index], false);
                    index = findRow();
                }
            }
        }

        /** The index of the row that was composed, or none. */
        private int findRow() {
            for (int i = 0; i < count; i++) {
                boolean isSame = true;
                for (int v = 0; v < MOST_VERTICES; v++) {
                    isSame = isSame && rows[i][v] == row[v];
                }
                if (isSame) {
                    return i;
                }
            }
            return NONE;
        }

        /**
         * Composes the translate of a row, or the row whose translate it is. The numbers of paths are
         * the inverse of the form's matrix, by which the equation is solved for either row.
         */
        private void move(int[] given, boolean isBack) {
            for (int v = 0; v < MOST_VERTICES; v++) {
                markBasic(v);
                int form = isBack ? quiver.formOf(given, basic) : quiver.formOf(basic, given);
                pulled[v] = v < quiver.vertexCount ? form : 0;
            }
            for (int v = 0; v < MOST_VERTICES; v++) {
                row[v] = 0;
                for (int u = 0; u < MOST_VERTICES; u++) {
                    row[v] -= (isBack ? table.pairs[v][u] : table.pairs[u][v]) * pulled[u];
                }
            }
        }

        private int findTranslate(int index) {
            move(rows[index], true);
            return findRow();
        }

        private void markBasic(int vertex) {
            for (int v = 0; v < MOST_VERTICES; v++) {
                basic[v] = v == vertex ? 1 : 0;
            }
        }

        private void findFriends() {
            for (int i = 0; i < count; i++) {
                friends[i] = 0;
                for (int j = 0; j < count; j++) {
                    if (quiver.formOf(rows[i], rows[j]) >= 0 && quiver.formOf(rows[j], rows[i]) >= 0) {
                        friends[i] |= 1 << j;
                    }
                }
            }
        }

        private int countMeshArrows(int index, int other) {
            int one = orbitVertices[index];
            int two = orbitVertices[other];
            int later = orbitTimes[other] - orbitTimes[index];
            return later == 0 ? quiver.countArrows(two, one) : later == 1 ? quiver.countArrows(one, two) : 0;
        }

        private int countTilting() {
            return countSets(this, (1 << count) - 1, 0, quiver.vertexCount);
        }

        /** Adds root by root, in their order, to a set without extensions: five levels at most. */
        private static int countSets(RootTable roots, int allowed, int first, int left) {
            if (left <= 0) {
                return 1;
            }
            int sets = 0;
            for (int i = first; i < roots.count; i++) {
                if ((allowed >> i & 1) == 1) {
                    sets += countSets(roots, allowed & roots.friends[i], i + 1, left - 1);
                }
            }
            return sets;
        }

        private boolean isTiltingSet(int set) {
            if (set < 0 || set >> count != 0 || Integer.bitCount(set) != quiver.vertexCount) {
                return false;
            }
            for (int i = 0; i < count; i++) {
                if ((set >> i & 1) == 1 && (set & ~friends[i]) != 0) {
                    return false;
                }
            }
            return true;
        }

        /** The set with another root instead of the one told, or 0 if there is none. */
        private int exchange(int set, int index) {
            int rest = set & ~(1 << index);
            for (int i = 0; i < count; i++) {
                if (i != index && (rest >> i & 1) == 0 && isTiltingSet(rest | 1 << i)) {
                    return rest | 1 << i;
                }
            }
            return 0;
        }

        /** Whether each root is in an orbit, and with its translate adds up to what goes to it. */
        private boolean isMeshed() {
            for (int i = 0; i < count; i++) {
                if (orbitVertices[i] < 0) {
                    return false;
                }
            }
            for (int i = 0; i < count; i++) {
                int behind = findTranslate(i);
                for (int v = 0; v < quiver.vertexCount && behind >= 0; v++) {
                    int due = rows[i][v] + rows[behind][v];
                    for (int j = 0; j < count; j++) {
                        due -= countMeshArrows(j, i) * rows[j][v];
                    }
                    if (due != 0) {
                        return false;
                    }
                }
            }
            return true;
        }
    }

    /** The b numbers and frieze numbers. */
    private static final class Cluster {
        private final Quiver quiver;
        private final int[][] turns = new int[MOST_VERTICES][MOST_VERTICES];
        private final int[][] changed = new int[MOST_VERTICES][MOST_VERTICES];
        private final int[] friezes = new int[MOST_VERTICES];

        private Cluster(Quiver quiver) {
            this.quiver = quiver;
        }

        private void begin() {
            for (int v = 0; v < MOST_VERTICES; v++) {
                friezes[v] = 1;
                for (int w = 0; w < MOST_VERTICES; w++) {
                    turns[v][w] = quiver.countArrows(v, w) - quiver.countArrows(w, v);
                }
            }
        }

        /** Composes the changed b numbers; false if one, or the frieze number, is too great. */
        private boolean canTurn(int vertex) {
            boolean isWithin = friezeAt(vertex) <= MOST_FRIEZE;
            for (int i = 0; i < quiver.vertexCount; i++) {
                for (int j = 0; j < quiver.vertexCount; j++) {
                    changed[i][j] = i == vertex || j == vertex ? -turns[i][j] : turnBetween(i, j, vertex);
                    isWithin = isWithin && changed[i][j] <= MOST_TURNED && changed[i][j] >= -MOST_TURNED;
                }
            }
            return isWithin;
        }

        private int turnBetween(int start, int end, int vertex) {
            int to = turns[start][vertex];
            int from = turns[vertex][end];
            int added = to > 0 && from > 0 ? to * from : to < 0 && from < 0 ? -(to * from) : 0;
            return turns[start][end] + added;
        }

        private void turnAt(int vertex) {
            friezes[vertex] = (int) friezeAt(vertex);
            for (int i = 0; i < quiver.vertexCount; i++) {
                for (int j = 0; j < quiver.vertexCount; j++) {
                    turns[i][j] = changed[i][j];
                }
            }
        }

        private long friezeAt(int vertex) {
            long both = multiply(vertex, 1) + multiply(vertex, -1);
            // Friezes are never below 1; the test is for the divisor.
            return friezes[vertex] > 0 ? both / friezes[vertex] : both;
        }

        /**
         * The product of friezes by the b numbers of one sign, held just above the greatest that
         * matters: divided by a frieze number, this is still above what is allowed.
         */
        private long multiply(int vertex, int sign) {
            long bound = (long) MOST_FRIEZE * MOST_FRIEZE + MOST_FRIEZE;
            long product = 1;
            for (int j = 0; j < quiver.vertexCount; j++) {
                int times = turns[vertex][j] * sign;
                for (int i = 0; i < times && product < bound; i++) {
                    product *= friezes[j];
                }
                product = Math.min(product, bound);
            }
            return product;
        }

        private boolean isAgainstItself() {
            for (int i = 0; i < quiver.vertexCount; i++) {
                for (int j = 0; j < quiver.vertexCount; j++) {
                    if (turns[i][j] != -turns[j][i]) {
                        return false;
                    }
                }
            }
            return true;
        }
    }
}
