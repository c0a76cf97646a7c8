/** Promises 48 to 50: clusters and friezes. */
public final class ClusterTest {
    private static final String IOOBE = "throws.IndexOutOfBoundsException";
    private static final String UOE = "throws.UnsupportedOperationException";

    public static void main(String[] args) {
        turn();
        turned();
        refused();
        greatestFrieze();
        greatestTurned();
        greatestOfEither();
        zerosAndModules();
        Check.finish();
    }

    private static String numbers(Meshquiver x, int vertices) {
        StringBuilder text = new StringBuilder();
        for (int i = 0; i < vertices; i++) {
            for (int j = 0; j < vertices; j++) {
                text.append(x.turned(i, j)).append(j + 1 < vertices ? " " : i + 1 < vertices ? "/" : "");
            }
        }
        return text.toString();
    }

    /** Two vertices and an arrow: the frieze numbers come round behind five turns. */
    private static void turn() {
        Meshquiver x = Check.quiver(2, 0, 1);
        int[] due = {2, 3, 2, 1, 1, 2, 3, 2, 1, 1};
        for (int i = 0; i < due.length; i++) {
            int vertex = i % 2;
            Check.due("P48 turn", () -> x.turn(vertex), due[i]);
            Check.due("P50 frieze", () -> x.frieze(vertex), due[i]);
        }
        Check.due("P48 no such vertex", () -> x.turn(2), IOOBE);
        Check.due("P48 no such vertex", () -> x.turn(-1), IOOBE);
        Check.due("P50 no such vertex", () -> x.frieze(2), IOOBE);
        Check.due("P50 no such vertex", () -> x.frieze(-1), IOOBE);
        Meshquiver one = Check.quiver(1);
        Check.due("P48 two empty products", () -> one.turn(0), 2);
        Check.due("P48 and back", () -> one.turn(0), 1);
    }

    private static void turned() {
        Meshquiver x = Check.quiver(3, 0, 1, 0, 1, 1, 2);
        Check.due("P49 at first", () -> numbers(x, 3), "0 2 0/-2 0 1/0 -1 0");
        Check.due("P48 1 and 2", () -> x.turn(1), 2);
        Check.due("P49 signs and one way more", () -> numbers(x, 3), "0 -2 2/2 0 -1/-2 1 0");
        Check.due("P48 powers", () -> x.turn(0), 5);
        Check.due("P49 less the other way", () -> numbers(x, 3), "0 2 -2/-2 0 3/2 -3 0");
        Check.due("P49 no such vertex", () -> x.turned(3, 0), IOOBE);
        Check.due("P49 no such vertex", () -> x.turned(0, -1), IOOBE);
        Check.due("P49 of itself", () -> x.turned(1, 1), 0);
    }

    private static void refused() {
        Meshquiver loop = Check.quiver(2, 0, 1, 1, 1);
        Check.due("P48 a loop", () -> loop.turn(0), UOE);
        Check.due("P49 a loop", () -> loop.turned(0, 1), UOE);
        Check.due("P50 frieze numbers stay", () -> loop.frieze(0), 1);
        Check.due("P48 the vertex comes first", () -> loop.turn(2), IOOBE);
        Check.due("P49 the vertex comes first", () -> loop.turned(0, 2), IOOBE);
        Meshquiver pair = Check.quiver(3, 0, 1, 1, 2, 1, 0);
        Check.due("P48 arrows either way", () -> pair.turn(2), UOE);
        Check.due("P49 arrows either way", () -> pair.turned(1, 2), UOE);
        Meshquiver ring = Check.quiver(3, 0, 1, 1, 2, 2, 0);
        Check.due("P48 a ring may be turned", () -> ring.turn(0), 2);
        Check.due("P49 arrows that go out", () -> ring.turned(1, 2), 0);
    }

    /** Two arrows: 2, 5, 13 and so on, each second one of Fibonacci's numbers. */
    private static void greatestFrieze() {
        Meshquiver x = Check.quiver(2, 0, 1, 0, 1);
        long before = 1;
        long last = 2;
        int vertex = 0;
        while (last <= 1000000) {
            int at = vertex;
            Check.due("P48 two arrows", () -> x.turn(at), last);
            long next = 3 * last - before;
            before = last;
            last = next;
            vertex = 1 - vertex;
        }
        int at = vertex;
        long kept = x.frieze(at);
        Check.due("P48 above 1000000", () -> x.turn(at), UOE);
        Check.due("P48 nothing was changed", () -> x.frieze(at), kept);
        Check.due("P49 nothing was changed", () -> x.turned(0, 1), at == 0 ? 2 : -2);
        long back = (kept * kept + 1) / x.frieze(1 - at);
        Check.due("P48 the way back is open", () -> x.turn(1 - at), back);
    }

    private static void greatestTurned() {
        // Three vertices in a ring, 2 and 2 and 3 arrows: b numbers grow from turn to turn.
        Meshquiver x = Check.quiver(3, 0, 1, 0, 1, 0, 1, 1, 2, 1, 2, 1, 2);
        Reference y = new Reference();
        for (int v = 0; v < 3; v++) {
            y.vertex();
        }
        for (int a = 0; a < 6; a++) {
            y.arrow(a / 3, a / 3 + 1);
        }
        for (int i = 0; i < 12; i++) {
            int vertex = (i + 1) % 3;
            String due = Check.told(() -> y.turn(vertex));
            Check.due("P48 as by the other formula", () -> x.turn(vertex), due);
        }
        Check.due("P49 then", () -> numbers(x, 3), numbersOf(y));
    }

    private static String numbersOf(Reference y) {
        StringBuilder text = new StringBuilder();
        for (int i = 0; i < y.n; i++) {
            for (int j = 0; j < y.n; j++) {
                text.append(y.turned(i, j)).append(j + 1 < y.n ? " " : i + 1 < y.n ? "/" : "");
            }
        }
        return text.toString();
    }

    /** Runs in which one limit or the other is met first, beside the reference. */
    private static void greatestOfEither() {
        int[][] quivers = {
            {0, 1, 1, 2, 0, 2},
            {0, 1, 0, 1, 1, 2, 1, 2, 1, 2, 1, 2},
            {0, 1, 1, 2, 2, 3, 3, 4, 4, 0},
            {0, 1, 0, 1, 3, 1, 2, 1, 4, 1},
            {0, 1, 0, 1, 1, 2, 1, 2, 2, 0, 2, 0},
            {0, 1, 0, 1, 0, 1, 0, 1, 0, 1, 0, 1, 0, 1},
        };
        long state = 7;
        for (int[] ends : quivers) {
            for (int vertices : new int[] {3, 4, 5}) {
                if (vertices < 5 && ends.length == 10) {
                    continue;
                }
                Meshquiver x = Check.quiver(vertices, ends);
                Reference y = new Reference();
                for (int v = 0; v < vertices; v++) {
                    y.vertex();
                }
                for (int i = 0; i < ends.length; i += 2) {
                    y.arrow(ends[i], ends[i + 1]);
                }
                for (int i = 0; i < 60; i++) {
                    state = state * 6364136223846793005L + 1442695040888963407L;
                    int vertex = (int) ((state >>> 33) % vertices);
                    String due = Check.told(() -> y.turn(vertex));
                    Check.due("P48 beside the reference", () -> x.turn(vertex), due);
                }
                Check.due("P49 beside the reference", () -> numbers(x, vertices), numbersOf(y));
            }
        }
    }

    private static void zerosAndModules() {
        Meshquiver x = Check.quiver(3, 0, 1, 1, 2);
        x.turn(1);
        Check.type(x, 0, 1);
        x.zero();
        Check.due("a zero path leaves b numbers", () -> x.turned(0, 2), 1);
        Check.due("a zero path leaves frieze numbers", () -> x.frieze(1), 2);
        x.simple(0);
        Check.due("P48 with modules", () -> x.turn(1), 1);
    }
}
