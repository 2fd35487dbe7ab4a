/** The edges of a new object, and of shelves and rows: promises 1 to 8. */
final class ShelfEdges extends Edge {
    private ShelfEdges() {
    }

    static void all() {
        aNewObject();
        newRows();
        whatIsKept();
        setRefusals();
        copies();
        copyRefusals();
        elements();
        holding();
        showing();
        saying();
        kinds();
        sayRefusals();
    }

    private static void aNewObject() {
        edge(1, "5 MORNINGS, no PEOPLE; SHELVES hold NOTHING; THE TAPE is empty.",
            () -> runs(fresh(), "status(0) = 5", "status(1) = 0", "status(10) = 0", "status(8) = 0"));
        edge(1, "NONE = -1", () -> due("NONE", UnexpectedBell.NONE, -1));
        edge(1, "MORNINGS are 0 to n less 1 (n 1 to 9; 5 at first)",
            () -> runs(fresh(), "morningOf(0, 0) = 1", "morningOf(4, 0) = 1", "morningOf(5, 0) = -2",
                "morningOf(-1, 0) = -2"));
        edge(1, "each is ALLOWED, or not (all at first), and has a WEIGHT (0 to 9; 1 at first)",
            () -> runs(fresh(), "status(3) = 31", "morningOf(0, 1) = 1", "morningOf(1, 1) = 1", "morningOf(2, 1) = 1",
                "morningOf(3, 1) = 1", "morningOf(4, 1) = 1", "status(4) = 5"));
        edge(1, "SAID: how often it was said that nobody will expect it (0 to 9; 1 at first)",
            () -> runs(fresh(), "status(2) = 1"));
        edge(1, "FACES (0 at first)", () -> runs(fresh(), "status(6) = 0"));
        edge(1, "FAILED (0 at first)", () -> runs(fresh(), "status(5) = 0", "status(7) = 0"));
        edge(1, "SEED (1 at first)", () -> runs(fresh(), "status(9) = 1"));
        edge(1, "SHELVES 0 to 7 hold NOTHING (at first)", () -> {
            for (int s = 0; s < 8; s++) {
                runs(fresh(), "holds(" + s + ") = -1", "element(" + s + ", 0) = 0", "judge(" + s + ") = -4");
            }
        });
        edge(1, "nothing changes but how many there were", () -> runs(fresh(), "status(12) = 0", "status(13) = 0",
            "status(14) = 0", "status(15) = 0", "status(16) = 0"));
        edge(1, "An object is used for at most 512 calls", () -> {
            UnexpectedBell x = fresh();
            for (int i = 1; i < 512; i++) {
                x.seed(i);
            }
            runs(x, "seed(7) = 511");
        });
        edge(1, "An object is used for at most 512 calls after it has been made", () -> {
            UnexpectedBell x = lively();
            runs(fresh(), "status(0) = 5", "status(1) = 0", "holds(0) = -1", "status(12) = 0", "back() = -5");
            runs(x, "status(0) = 6", "status(1) = 5");
        });
    }

    private static void newRows() {
        edge(2, "SHELF s holds a new ROW: 1.", () -> runs(lively(), "row(6, 3, 2) = 1", "holds(6) = 3",
            "row(3, 4, 1) = 1", "holds(3) = 4", "row(0, 1, 2) = 1", "holds(0) = 1", "element(0, 1) = 0"));
        edge(2, "SHELVES 0 to 7", () -> runs(fresh(), "row(0, 0, 1) = 1", "row(7, 0, 1) = 1", "row(8, 0, 1) = -2",
            "row(-1, 0, 1) = -2", "status(10) = 2"));
        edge(2, "A ROW has a SORT (0 bytes, 1 shorts, 2 ints, 3 longs, 4 booleans)",
            () -> runs(fresh(), "row(0, 0, 1) = 1", "row(0, 4, 1) = 1", "row(0, 5, 1) = -2", "row(0, -1, 1) = -2"));
        edge(2, "and 0 to 40 elements", () -> runs(fresh(), "row(0, 0, 0) = 1", "set(0, 0, 1) = -2",
            "row(0, 0, 40) = 1", "set(0, 39, 1) = 1", "set(0, 40, 1) = -2", "row(0, 0, 41) = -2", "holds(0) = 0"));
        edge(2, "(0, or not so, at first)", () -> {
            for (int sort = 0; sort < 5; sort++) {
                UnexpectedBell x = after(fresh(), "row(1, " + sort + ", 40)");
                for (int i = 0; i < 40; i++) {
                    x.set(1, i, -1);
                }
                // A shorter one between: what lay behind its end may not come back.
                after(x, "row(1, " + sort + ", 1)", "row(1, " + sort + ", 40)");
                for (int i = 0; i < 40; i++) {
                    due("element " + i, x.element(1, i), 0);
                }
            }
        });
        edge(2, "BAD.", () -> refused(BAD, Edge::lively, "row(-1, 0, 1)", "row(8, 0, 1)", "row(-2147483648, 0, 1)",
            "row(2147483647, 0, 1)", "row(0, -1, 1)", "row(0, 5, 1)", "row(0, 2147483647, 1)", "row(0, 0, -1)",
            "row(0, 0, 41)", "row(3, 0, -2147483648)", "row(6, 0, 2147483647)", "row(8, 5, 41)"));
    }

    private static void whatIsKept() {
        edge(3, "Element i of the ROW in SHELF s becomes v: 1.", () -> runs(after(fresh(), "row(7, 2, 3)"),
            "set(7, 0, 5) = 1", "set(7, 2, 6) = 1", "element(7, 0) = 5", "element(7, 1) = 0", "element(7, 2) = 6"));
        keeps("0 bytes", 0, 127, 127, 128, -128, 255, -1, 256, 0, -128, -128, -129, 127,
            Long.MAX_VALUE, -1, Long.MIN_VALUE, 0);
        keeps("1 shorts", 1, 32767, 32767, 32768, -32768, 65535, -1, 65536, 0, -32768, -32768, -32769, 32767,
            Long.MAX_VALUE, -1, Long.MIN_VALUE, 0);
        keeps("2 ints", 2, MAX, MAX, MAX + 1L, MIN, 0xffffffffL, -1, 1L << 32, 0, MIN, MIN, MIN - 1L, MAX,
            Long.MAX_VALUE, -1, Long.MIN_VALUE, 0);
        keeps("3 longs", 3, Long.MAX_VALUE, Long.MAX_VALUE, Long.MIN_VALUE, Long.MIN_VALUE, 1L << 32, 1L << 32,
            -1, -1);
        keeps("4 booleans", 4, 0, 0, 1, 1, 2, 1, 256, 1, 65536, 1, 1L << 32, 1, -1, 1, Long.MIN_VALUE, 1,
            Long.MAX_VALUE, 1);
        edge(3, "(of booleans: whether it is not 0); told they are numbers (1, 0)",
            () -> runs(after(fresh(), "row(0, 4, 2)"), "set(0, 0, 77) = 1", "element(0, 0) = 1",
                "set(0, 0, 0) = 1", "element(0, 0) = 0"));
    }

    /** Pairs of what is put in and what is there then. */
    private static void keeps(String sort, int number, long... pairs) {
        edge(3, "what is put in keeps its lowest bits", () -> {
            for (int i = 0; i < pairs.length; i += 2) {
                UnexpectedBell x = fresh();
                x.row(2, number, 3);
                due("set of " + sort, x.set(2, 1, pairs[i]), 1);
                due(pairs[i] + " in " + sort, x.element(2, 1), pairs[i + 1]);
                due("the element ahead", x.element(2, 0), 0);
                due("the element behind", x.element(2, 2), 0);
            }
        });
    }

    private static void setRefusals() {
        edge(3, "BAD SHELF", () -> refused(BAD, Edge::lively, "set(-1, 0, 1)", "set(8, 0, 1)",
            "set(-2147483648, 0, 1)", "set(2147483647, 0, 1)"));
        edge(3, "OTHER", () -> refused(OTHER, Edge::lively, "set(3, 0, 1)"));
        edge(3, "OTHER; NOTHING; BAD i.", () -> refused(OTHER, Edge::lively, "set(3, -1, 1)", "set(4, 40, 1)"));
        edge(3, "NOTHING", () -> refused(NOTHING, Edge::lively, "set(6, 0, 1)"));
        edge(3, "NOTHING; BAD i.", () -> refused(NOTHING, Edge::lively, "set(6, -1, 1)", "set(6, 40, 1)"));
        edge(3, "BAD i", () -> refused(BAD, Edge::lively, "set(0, -1, 1)", "set(0, 6, 1)", "set(1, 3, 1)",
            "set(5, 40, 1)", "set(7, 0, 1)", "set(0, -2147483648, 1)", "set(0, 2147483647, 1)"));
    }

    private static void copies() {
        edge(4, "(as they were): n.", () -> runs(lively(), "copy(0, 0, 0, 1, 5) = 5", "element(0, 0) = 1",
            "element(0, 1) = 1", "element(0, 2) = 3", "element(0, 3) = 5", "element(0, 4) = 4", "element(0, 5) = 4"));
        edge(4, "(as they were)", () -> runs(lively(), "copy(0, 0, 1, 0, 5) = 5", "element(0, 0) = 3",
            "element(0, 1) = 5", "element(0, 2) = 4", "element(0, 3) = 4", "element(0, 4) = 4", "element(0, 5) = 4"));
        edge(4, "n elements of the ROW in SHELF p from place i on come to places j on of that in q",
            () -> runs(after(lively(), "row(6, 2, 3)"), "copy(0, 6, 1, 1, 2) = 2", "element(6, 0) = 0",
                "element(6, 1) = 3", "element(6, 2) = 5", "element(0, 1) = 3"));
        edge(4, "n elements of the ROW in SHELF p", () -> {
            runs(lively(), "copy(0, 0, 6, 6, 0) = 0", "copy(0, 7, 6, 0, 0) = 0", "copy(7, 7, 0, 0, 0) = 0");
            runs(after(fresh(), "row(0, 3, 40)", "row(7, 3, 40)", "set(0, 0, 9)", "set(0, 39, 8)"),
                "copy(0, 7, 0, 0, 40) = 40", "element(7, 0) = 9", "element(7, 39) = 8", "copy(7, 0, 39, 0, 1) = 1",
                "element(0, 0) = 8", "copy(0, 7, 0, 39, 1) = 1");
        });
    }

    private static void copyRefusals() {
        edge(4, "BAD SHELVES", () -> refused(BAD, Edge::lively, "copy(-1, 0, 0, 0, 1)", "copy(8, 0, 0, 0, 1)",
            "copy(0, -1, 0, 0, 1)", "copy(0, 8, 0, 0, 1)", "copy(-2147483648, 2147483647, 0, 0, 0)"));
        edge(4, "BAD SHELVES; OTHER", () -> refused(BAD, Edge::lively, "copy(8, 3, 0, 0, 1)", "copy(3, 8, 0, 0, 1)",
            "copy(-1, 6, 0, 0, 1)", "copy(6, -1, 0, 0, 1)"));
        edge(4, "OTHER (also", () -> refused(OTHER, Edge::lively, "copy(3, 0, 0, 0, 1)", "copy(0, 3, 0, 0, 1)",
            "copy(3, 4, 0, 0, 0)", "copy(3, 3, 0, 0, 0)", "copy(3, 0, -1, 0, 1)", "copy(0, 3, 0, 0, 41)"));
        edge(4, "OTHER (also ROWS of two SORTS, if both hold something); NOTHING",
            () -> refused(OTHER, Edge::lively, "copy(3, 6, 0, 0, 1)", "copy(6, 3, 0, 0, 1)"));
        edge(4, "(also ROWS of two SORTS, if both hold something)", () -> {
            refused(OTHER, Edge::lively, "copy(0, 1, 0, 0, 1)", "copy(1, 0, 0, 0, 1)", "copy(2, 5, 0, 0, 1)",
                "copy(7, 5, 0, 0, 0)", "copy(0, 1, 0, 0, 99)", "copy(0, 1, -1, -1, -1)");
            refused(NOTHING, Edge::lively, "copy(0, 6, 0, 0, 1)", "copy(6, 0, 0, 0, 1)");
        });
        edge(4, "NOTHING", () -> refused(NOTHING, Edge::lively, "copy(6, 6, 0, 0, 0)", "copy(6, 7, 0, 0, 0)"));
        edge(4, "NOTHING; BAD the others.", () -> refused(NOTHING, Edge::lively, "copy(6, 0, -1, 0, 1)",
            "copy(0, 6, 0, 0, 41)", "copy(6, 6, 0, 0, -1)"));
        edge(4, "BAD the others", () -> refused(BAD, Edge::lively, "copy(0, 0, -1, 0, 1)", "copy(0, 0, 0, -1, 1)",
            "copy(0, 0, 0, 0, -1)", "copy(0, 0, 0, 0, 7)", "copy(0, 0, 1, 0, 6)", "copy(0, 0, 0, 1, 6)",
            "copy(0, 0, 6, 0, 1)", "copy(0, 0, 7, 0, 0)", "copy(0, 0, 0, 7, 0)", "copy(0, 7, 0, 0, 1)",
            "copy(7, 0, 0, 0, 1)", "copy(5, 5, 0, 0, 41)"));
        edge(4, "BAD the others.", () -> refused(BAD, Edge::lively, "copy(0, 0, 2147483647, 0, 1)",
            "copy(0, 0, 0, 2147483647, 1)", "copy(0, 0, 1, 0, 2147483647)", "copy(0, 0, 0, 1, 2147483647)",
            "copy(0, 0, 2147483647, 2147483647, 2147483647)", "copy(0, 0, 2147483647, 2147483647, 0)",
            "copy(0, 0, -2147483648, 0, 1)", "copy(0, 0, 0, -2147483648, 1)", "copy(0, 0, 0, 0, -2147483648)",
            "copy(0, 0, -2147483648, 0, -2147483648)", "copy(0, 0, -1, -1, 2)"));
    }

    private static void elements() {
        edge(5, "Element i of the ROW", () -> runs(lively(), "element(0, 0) = 1", "element(0, 5) = 4",
            "element(1, 2) = 540", "element(2, 0) = 1", "element(2, 1) = 0", "element(5, 39) = -7"));
        edge(5, "0: none, no ROW (nothing is refused).", () -> unchanged(0, Edge::lively, "element(0, 6)",
            "element(0, -1)", "element(5, 40)", "element(7, 0)", "element(0, -2147483648)",
            "element(0, 2147483647)"));
        edge(5, "no ROW (nothing is refused).", () -> unchanged(0, Edge::lively, "element(3, 0)", "element(6, 0)",
            "element(8, 0)", "element(-1, 0)", "element(2147483647, 0)", "element(-2147483648, 0)"));
        edge(5, "0: none", () -> runs(after(lively(), "row(0, 2, 2)", "show(1, 0)", "show(2, -1)"),
            "element(0, 5) = 0", "element(1, 0) = 0", "element(2, 0) = 0"));
    }

    private static void holding() {
        edge(6, "NONE NOTHING, no SHELF", () -> unchanged(NONE, Edge::lively, "holds(6)", "holds(-1)", "holds(8)",
            "holds(-2147483648)", "holds(2147483647)"));
        edge(6, "0 to 4 a ROW by its SORT", () -> runs(after(fresh(), "row(0, 0, 0)", "row(1, 1, 1)", "row(2, 2, 2)",
            "row(3, 3, 3)", "row(7, 4, 40)"), "holds(0) = 0", "holds(1) = 1", "holds(2) = 2", "holds(3) = 3",
            "holds(7) = 4"));
        edge(6, "10 and the number of somebody.", () -> runs(after(crowded(), "show(0, 0)", "show(7, 5)"),
            "holds(0) = 10", "holds(7) = 15", "holds(3) = 12"));
    }

    private static void showing() {
        edge(7, "SHELF s holds somebody, or NOTHING (one NONE): 1.", () -> runs(lively(), "show(0, 0) = 1",
            "holds(0) = 10", "show(7, 4) = 1", "holds(7) = 14", "show(7, 3) = 1", "holds(7) = 13"));
        edge(7, "or NOTHING (one NONE)", () -> runs(lively(), "show(0, -1) = 1", "holds(0) = -1", "show(3, -1) = 1",
            "holds(3) = -1", "show(6, -1) = 1", "holds(6) = -1", "status(12) = 1"));
        edge(7, "BAD.", () -> refused(BAD, Edge::lively, "show(-1, 0)", "show(8, 0)", "show(8, -1)", "show(0, -2)",
            "show(0, 5)", "show(0, -2147483648)", "show(0, 2147483647)", "show(2147483647, 0)",
            "show(-2147483648, -1)", "show(3, 5)", "show(6, 5)"));
        edge(7, "nobody of that number", () -> {
            refused(BAD, Trial::fresh, "show(0, 0)");
            refused(BAD, Edge::crowded, "show(0, 6)");
        });
    }

    private static void saying() {
        edge(8, "PUPIL the first MORNING on which they EXPECT it (NONE)",
            () -> runs(after(lively(), "show(0, 0)", "show(1, 3)"), "says(0, 0) = 0", "says(1, 0) = 5",
                "says(4, 0) = 2"));
        edge(8, "(NONE isn't refused.)", () -> unchanged(NONE, Edge::lively, "says(3, 0)"));
        edge(8, "SLEEPER on how many MORNINGS they sleep (multiples as above)", () -> {
            runs(after(lively(), "hint(0)"), "says(3, 1) = 2", "says(4, 1) = 2");
            runs(after(fresh(), "term(9)", "person(1, 0)", "person(3, 2)", "show(0, 0)", "show(1, 1)"),
                "says(0, 1) = 5", "says(1, 1) = 3", "term(1) = 9", "says(0, 1) = 1", "learn(0, 9) = 0",
                "term(3) = 1", "says(0, 1) = 2");
        });
        edge(8, "BETTOR on how many they EXPECT it", () -> runs(after(lively(), "show(0, 0)", "show(1, 3)"),
            "says(0, 2) = 4", "says(1, 2) = 1", "hint(0) = 0", "says(0, 2) = 0", "says(1, 2) = 0"));
        edge(8, "USHER their DEPTH", () -> runs(after(lively(), "unsay(9)", "learn(4, 9)"), "says(4, 3) = 10",
            "unsay(0) = 9", "says(4, 3) = 1"));
        edge(8, "WISE their DEPTH", () -> runs(after(crowded(), "show(0, 5)"), "says(0, 4) = 2", "unsay(0) = 2",
            "says(0, 4) = 0"));
        edge(8, "SURE 1 if they EXPECT it on the last ALLOWED MORNING, else 0.",
            () -> runs(after(lively(), "show(0, 0)"), "says(0, 5) = 1", "weight(5, 0) = 2", "says(0, 5) = 0",
                "allow(5, false) = 1", "says(0, 5) = 1", "hint(0) = 0", "says(0, 5) = 0"));
    }

    private static void kinds() {
        edge(8, "0 PUPIL; 1 SLEEPER, 2 BETTOR, 4 WISE, each under PUPIL; 3 USHER, under SLEEPER; 5 SURE, under BETTOR",
            () -> {
                String[] taken = {"0", "01", "02", "013", "04", "025"};
                for (int kind = 0; kind < 6; kind++) {
                    UnexpectedBell x = after(fresh(), "person(" + kind + ", 0)", "show(0, 0)");
                    int refused = 0;
                    for (int as = 0; as < 6; as++) {
                        boolean isSo = taken[kind].indexOf('0' + as) >= 0;
                        refused += isSo ? 0 : 1;
                        due(kind + " taken for " + as, x.says(0, as) == OTHER ? 0 : 1, isSo ? 1 : 0);
                        due("refused until then", x.status(13), refused);
                    }
                }
            });
    }

    private static void sayRefusals() {
        edge(8, "BAD SHELF, KIND", () -> refused(BAD, Edge::lively, "says(-1, 0)", "says(8, 0)", "says(3, -1)",
            "says(3, 6)", "says(2147483647, 0)", "says(-2147483648, 0)", "says(3, 2147483647)",
            "says(3, -2147483648)"));
        edge(8, "BAD SHELF, KIND; OTHER", () -> refused(BAD, Edge::lively, "says(0, 6)", "says(0, -1)"));
        edge(8, "KIND; OTHER (also if they're of no such KIND nor of one under it); NOTHING.",
            () -> refused(BAD, Edge::lively, "says(6, 6)", "says(6, -1)"));
        edge(8, "OTHER", () -> refused(OTHER, Edge::lively, "says(0, 0)", "says(2, 5)", "says(7, 0)"));
        edge(8, "(also if they're of no such KIND nor of one under it)", () -> refused(OTHER, Edge::lively,
            "says(3, 2)", "says(3, 3)", "says(3, 4)", "says(3, 5)", "says(4, 2)", "says(4, 4)", "says(4, 5)"));
        edge(8, "NOTHING", () -> refused(NOTHING, Edge::lively, "says(6, 0)", "says(6, 5)"));
    }
}
