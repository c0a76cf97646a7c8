/** Promises 37 to 47: kinds, the form, roots, orbits, the mesh, tilting sets. */
public final class RootTest {
    private static final String IAE = "throws.IllegalArgumentException";
    private static final String IOOBE = "throws.IndexOutOfBoundsException";
    private static final String NSEE = "throws.NoSuchElementException";
    private static final String UOE = "throws.UnsupportedOperationException";

    public static void main(String[] args) {
        kinds();
        kindsRefused();
        form();
        roots();
        rootCounts();
        rootsRefused();
        orbits();
        translates();
        between();
        mesh();
        tilting();
        tiltingSets();
        mutate();
        changes();
        Check.finish();
    }

    private static void kinds() {
        Check.due("P37 one vertex", () -> Check.quiver(1).kind(), 'f');
        Check.due("P37 a row", () -> Check.quiver(5, 0, 1, 2, 1, 2, 3, 4, 3).kind(), 'f');
        Check.due("P37 a row with a branch", () -> Check.quiver(5, 0, 1, 1, 2, 2, 3, 4, 2).kind(), 'f');
        Check.due("P37 a star of four", () -> Check.quiver(5, 1, 0, 2, 0, 0, 3, 0, 4).kind(), 't');
        Check.due("P37 two arrows", () -> Check.quiver(2, 0, 1, 0, 1).kind(), 't');
        Check.due("P37 a ring that is no cycle", () -> Check.quiver(3, 0, 1, 1, 2, 0, 2).kind(), 't');
        Check.due("P37 a ring of five", () -> Check.quiver(5, 0, 1, 1, 2, 2, 3, 3, 4, 0, 4).kind(), 't');
        Check.due("P37 three arrows", () -> Check.quiver(2, 1, 0, 1, 0, 1, 0).kind(), 'w');
        Check.due("P37 two arrows and one more", () -> Check.quiver(3, 0, 1, 0, 1, 1, 2).kind(), 'w');
        Check.due("P37 a ring and a tail", () -> Check.quiver(4, 0, 1, 1, 2, 0, 2, 2, 3).kind(), 'w');
    }

    private static void kindsRefused() {
        Check.due("P37 no vertex", () -> new Meshquiver().kind(), UOE);
        Check.due("P37 not connected", () -> Check.quiver(2).kind(), UOE);
        Check.due("P37 not connected, further on", () -> Check.quiver(4, 0, 1, 2, 3).kind(), UOE);
        Check.due("P37 a loop", () -> Check.quiver(1, 0, 0).kind(), UOE);
        Check.due("P37 to and fro", () -> Check.quiver(2, 0, 1, 1, 0).kind(), UOE);
        Check.due("P37 a cycle behind", () -> Check.quiver(4, 0, 1, 1, 2, 2, 3, 3, 1).kind(), UOE);
        Check.due("P37 a cycle ahead", () -> Check.quiver(4, 1, 2, 2, 3, 3, 1, 3, 0).kind(), UOE);
        Meshquiver x = Check.quiver(3, 0, 1, 1, 2);
        Check.due("P37 before", () -> x.kind(), 'f');
        Check.type(x, 0, 1);
        x.zero();
        Check.due("P37 a zero path", () -> x.kind(), UOE);
        Check.due("P39 a zero path", () -> x.roots(), UOE);
    }

    private static void form() {
        Meshquiver x = Check.quiver(2, 0, 1, 0, 1);
        Check.type(x, 1, 2, 3, -4);
        // 1 times 3 and 2 times -4, less twice 1 times -4.
        Check.due("P38 form", () -> x.form(), 3 - 8 + 8);
        Check.type(x, 3, -4, 1, 2);
        Check.due("P38 the other way", () -> x.form(), 3 - 8 - 12);
        Check.type(x, 1, 2, 3);
        Check.due("P38 too few", () -> x.form(), IAE);
        Check.type(x, 1, 2, 3, 4, 5);
        Check.due("P38 too many", () -> x.form(), IAE);
        Check.due("P38 the row stays", () -> x.clearRow(), 5);
        Meshquiver five = Check.quiver(5, 0, 1, 1, 2, 2, 3, 3, 4);
        Check.type(five, 1, 2, 3, 4, 5);
        Check.due("P38 one row of five", () -> five.form(), 55 - 2 - 6 - 12 - 20);
        Check.type(five, 1, 2, 3, 4, 5, 6);
        Check.due("P38 not six", () -> five.form(), IAE);
        Meshquiver four = Check.quiver(4, 0, 1, 3, 3);
        Check.type(four, 1, 2, 3, 4, 5, 6, 7, 8);
        Check.due("P38 eight numbers and a loop", () -> four.form(), 5 + 12 + 21 + 32 - 6 - 32);
        Check.type(four, 1, 2, 3, 4);
        Check.due("P38 four are too few", () -> four.form(), IAE);
        Meshquiver none = new Meshquiver();
        Check.due("P38 without vertices", () -> none.form(), 0);
        Meshquiver zero = Check.quiver(2, 0, 1, 1, 1);
        Check.type(zero, 0, 1);
        zero.zero();
        Check.type(zero, 1, 0, 1, 1);
        Check.due("P38 zero paths aside", () -> zero.form(), 0);
    }

    private static String row(Meshquiver x, int index, int vertices) {
        StringBuilder text = new StringBuilder();
        for (int v = 0; v < vertices; v++) {
            text.append(x.root(index, v));
        }
        return text.toString();
    }

    private static void roots() {
        Meshquiver x = Check.quiver(3, 0, 1, 1, 2);
        Check.due("P39 roots", () -> x.roots(), 6);
        String[] due = {"001", "010", "100", "011", "110", "111"};
        for (int i = 0; i < 6; i++) {
            int index = i;
            Check.due("P40 in the order of pieces", () -> row(x, index, 3), due[i]);
        }
        Check.due("P40 no such root", () -> x.root(6, 0), NSEE);
        Check.due("P40 no such root", () -> x.root(-1, 0), NSEE);
        Check.due("P40 no such vertex", () -> x.root(0, 3), IOOBE);
        Check.due("P40 no such vertex", () -> x.root(0, -1), IOOBE);
        Check.due("P40 roots come ahead of vertices", () -> x.root(6, 3), NSEE);
        Meshquiver d = Check.quiver(4, 1, 0, 2, 0, 3, 0);
        Check.due("P39 of a star of three", () -> d.roots(), 12);
        Check.due("P40 its greatest", () -> row(d, 11, 4), "2111");
    }

    private static void rootCounts() {
        Check.due("P39 one vertex", () -> Check.quiver(1).roots(), 1);
        Check.due("P39 two", () -> Check.quiver(2, 1, 0).roots(), 3);
        Check.due("P39 four", () -> Check.quiver(4, 0, 1, 2, 1, 2, 3).roots(), 10);
        Check.due("P39 five", () -> Check.quiver(5, 0, 1, 2, 1, 2, 3, 3, 4).roots(), 15);
        Check.due("P39 a branch of five", () -> Check.quiver(5, 0, 1, 1, 2, 2, 3, 4, 2).roots(), 20);
    }

    private static void rootsRefused() {
        Meshquiver[] others = {new Meshquiver(), Check.quiver(2, 0, 1, 0, 1), Check.quiver(2),
            Check.quiver(1, 0, 0), Check.quiver(2, 0, 1, 0, 1, 0, 1)};
        for (Meshquiver x : others) {
            Check.due("P39 not of kind f", () -> x.roots(), UOE);
            Check.due("P40 not of kind f", () -> x.root(-1, -1), UOE);
            Check.due("P41 not of kind f", () -> x.orbit(-1), UOE);
            Check.due("P42 not of kind f", () -> x.translate(-1), UOE);
            Check.due("P43 not of kind f", () -> x.between(-1, -1, true), UOE);
            Check.due("P44 not of kind f", () -> x.mesh(-1, -1), UOE);
            Check.due("P45 not of kind f", () -> x.tilting(), UOE);
            Check.due("P46 not of kind f", () -> x.isTilting(-1), UOE);
            Check.due("P47 not of kind f", () -> x.mutate(-1, -1), UOE);
        }
    }

    /**
     * The row 0 to 1 to 2: projective ones are 111, 011 and 001; the orbit of vertex 2 goes on to 010
     * and 100, that of vertex 1 to 110, that of vertex 0 ends at once.
     */
    private static void orbits() {
        Meshquiver x = Check.quiver(3, 0, 1, 1, 2);
        int[] due = {2, 12, 22, 1, 11, 0};
        for (int i = 0; i < 6; i++) {
            int index = i;
            Check.due("P41 orbit", () -> x.orbit(index), due[i]);
        }
        Check.due("P41 no such root", () -> x.orbit(6), NSEE);
        Check.due("P41 no such root", () -> x.orbit(-1), NSEE);
    }

    private static void translates() {
        Meshquiver x = Check.quiver(3, 0, 1, 1, 2);
        int[] due = {-1, 0, 1, -1, 3, -1};
        for (int i = 0; i < 6; i++) {
            int index = i;
            Check.due("P42 translate", () -> x.translate(index), due[i]);
        }
        Check.due("P42 no such root", () -> x.translate(6), NSEE);
        Check.due("P42 no such root", () -> x.translate(-1), NSEE);
        // By its equation, for each root and each row with a single 1.
        for (int i = 0; i < 12; i++) {
            Meshquiver d = Check.quiver(4, 1, 0, 0, 2, 3, 0);
            for (int v = 0; v < 4 && d.translate(i) >= 0; v++) {
                Check.type(d, d.root(i, 0), d.root(i, 1), d.root(i, 2), d.root(i, 3));
                for (int w = 0; w < 4; w++) {
                    d.type(v == w ? 1 : 0);
                }
                int one = d.form();
                int z = d.translate(i);
                Check.type(d, v == 0 ? 1 : 0, v == 1 ? 1 : 0, v == 2 ? 1 : 0, v == 3 ? 1 : 0,
                        d.root(z, 0), d.root(z, 1), d.root(z, 2), d.root(z, 3));
                Check.due("P42 the equation of a translate", () -> d.form(), -one);
            }
        }
    }

    private static void between() {
        Meshquiver x = Check.quiver(3, 0, 1, 1, 2);
        Check.due("P43 maps into 111", () -> x.between(0, 5, false), 1);
        Check.due("P43 no extensions", () -> x.between(0, 5, true), 0);
        Check.due("P43 extensions along an arrow", () -> x.between(2, 1, true), 1);
        Check.due("P43 no maps", () -> x.between(2, 1, false), 0);
        Check.due("P43 none back", () -> x.between(1, 2, true), 0);
        Check.due("P43 to itself", () -> x.between(4, 4, false), 1);
        Check.due("P43 no such root", () -> x.between(6, 0, false), NSEE);
        Check.due("P43 no such root", () -> x.between(0, 6, true), NSEE);
        Check.due("P43 no such root", () -> x.between(0, -1, true), NSEE);
        // As modules say it: strings of a row are the roots.
        for (int v = 0; v < 3; v++) {
            Check.type(x, v == 2 ? new int[0] : new int[] {v + 1});
            x.string(v);
        }
        int[] modules = {0, 1, 2};
        int[] indices = {4, 3, 0};
        for (int i : modules) {
            for (int j : modules) {
                Check.due("P43 as maps of modules", () -> x.between(indices[i], indices[j], false), x.maps(i, j));
                Check.due("P43 as extensions", () -> x.between(indices[i], indices[j], true), x.extensions(i, j));
            }
        }
    }

    private static void mesh() {
        Meshquiver x = Check.quiver(3, 0, 1, 1, 2);
        // 001 to 011 to 111, 011 to 010, 111 to 110, 010 to 110, 110 to 100.
        String[] due = {"000100", "000010", "000000", "010001", "001000", "000010"};
        for (int i = 0; i < 6; i++) {
            for (int j = 0; j < 6; j++) {
                int one = i;
                int two = j;
                Check.due("P44 mesh", () -> x.mesh(one, two), due[i].charAt(j));
            }
        }
        Check.due("P44 no such root", () -> x.mesh(6, 0), NSEE);
        Check.due("P44 no such root", () -> x.mesh(0, -1), NSEE);
    }

    private static void tilting() {
        Check.due("P45 one vertex", () -> Check.quiver(1).tilting(), 1);
        Check.due("P45 two", () -> Check.quiver(2, 0, 1).tilting(), 2);
        Check.due("P45 a row of three", () -> Check.quiver(3, 0, 1, 1, 2).tilting(), 5);
        Check.due("P45 a row of four", () -> Check.quiver(4, 0, 1, 1, 2, 2, 3).tilting(), 14);
        Check.due("P45 a row of five", () -> Check.quiver(5, 0, 1, 1, 2, 2, 3, 3, 4).tilting(), 42);
    }

    private static void tiltingSets() {
        Meshquiver x = Check.quiver(3, 0, 1, 1, 2);
        int count = 0;
        for (int set = 0; set < 256; set++) {
            count += x.isTilting(set) ? 1 : 0;
        }
        int all = count;
        Check.due("P46 as many as tilting() tells", () -> all, 5);
        Check.due("P46 the projective ones", () -> x.isTilting(1 << 0 | 1 << 3 | 1 << 5), true);
        Check.due("P46 the injective ones", () -> x.isTilting(1 << 2 | 1 << 4 | 1 << 5), true);
        Check.due("P46 the simple ones", () -> x.isTilting(7), false);
        Check.due("P46 too few", () -> x.isTilting(1 << 0 | 1 << 5), false);
        Check.due("P46 none", () -> x.isTilting(0), false);
        Check.due("P46 no such root", () -> x.isTilting(1 << 0 | 1 << 5 | 1 << 6), false);
        Check.due("P46 below 0", () -> x.isTilting(Integer.MIN_VALUE | 1 << 0 | 1 << 5), false);
        Check.due("P46 all", () -> x.isTilting(-1), false);
    }

    private static void mutate() {
        Meshquiver x = Check.quiver(3, 0, 1, 1, 2);
        int projective = 1 << 0 | 1 << 3 | 1 << 5;
        Check.due("P47 011 becomes 100", () -> x.mutate(projective, 3), 1 << 0 | 1 << 2 | 1 << 5);
        Check.due("P47 001 becomes 010", () -> x.mutate(projective, 0), 1 << 1 | 1 << 3 | 1 << 5);
        Check.due("P47 and back", () -> x.mutate(1 << 1 | 1 << 3 | 1 << 5, 1), projective);
        Check.due("P47 111 is in all", () -> x.mutate(projective, 5), NSEE);
        Check.due("P47 not in it", () -> x.mutate(projective, 1), IAE);
        Check.due("P47 no such root", () -> x.mutate(projective, 6), IAE);
        Check.due("P47 no such root", () -> x.mutate(projective, 32), IAE);
        Check.due("P47 no such root", () -> x.mutate(projective, -27), IAE);
        Check.due("P47 not tilting", () -> x.mutate(7, 0), IAE);
        Check.due("P47 below 0", () -> x.mutate(-1, 0), IAE);
        Meshquiver one = Check.quiver(1);
        Check.due("P47 no other root", () -> one.mutate(1, 0), NSEE);
    }

    private static void changes() {
        Meshquiver x = Check.quiver(2, 0, 1);
        Check.due("P39 of two", () -> x.roots(), 3);
        x.vertex();
        Check.due("P39 no more connected", () -> x.roots(), UOE);
        x.arrow(2, 1);
        Check.due("P39 of three", () -> x.roots(), 6);
        // 011 is projective of vertex 2; with 100, whose translate it is, it makes 111.
        Check.due("P41 of three", () -> x.orbit(2), 12);
        x.arrow(2, 0);
        Check.due("P37 of a ring", () -> x.kind(), 't');
        Check.due("P39 of a ring", () -> x.roots(), UOE);
    }
}
