/** The edges of rows told: promises 53 to 55. */
final class ToldEdges extends Edge {
    private ToldEdges() {
    }

    static void all() {
        rules();
        ruledTerms();
        ruleRefusals();
        lists();
        bitsOfPeople();
        listRefusals(54, "judge");
        listRefusals(55, "unlike");
    }

    private static UnexpectedBell told(int sort, long... values) {
        UnexpectedBell x = lively();
        tell(x, 6, sort, values);
        return x;
    }

    private static void rules() {
        edge(53, "it rang on (c and k times i) modulo n: how many", () -> {
            runs(lively(), "rules(0, 3, 0) = 1", "rules(0, 3, 1) = 2", "rules(0, 4, 0) = 0", "rules(0, 4, 1) = 0");
            runs(told(2, 5, 0, 1, 2, 3, 4, 5), "rules(6, 2, 0) = 1", "rules(6, 2, 1) = 2", "rules(6, 7, 0) = 1",
                "rules(6, 7, 1) = 1");
            runs(told(0, 4, 4, 4), "rules(6, 3, 0) = 1", "rules(6, 3, 1) = 16");
            runs(told(0, 0, 5, 4), "rules(6, 3, 0) = 1", "rules(6, 3, 1) = 8");
        });
        edge(53, "pairs of c and k (0 to n less 1 each)", () -> {
            runs(lively(), "rules(0, 1, 0) = 6", "rules(0, 1, 1) = 63");
            runs(after(told(0, 0), "term(1)"), "rules(6, 1, 0) = 1", "rules(6, 1, 1) = 1");
            runs(after(told(0, 8), "term(9)"), "rules(6, 1, 0) = 9", "rules(6, 1, 1) = 511");
        });
        edge(53, "on which it would ring in the next term by one of them", () -> runs(told(3, 3, 3, 3, 3),
            "rules(6, 4, 1) = 8", "hint(0) = 0", "rules(6, 4, 1) = 8"));
    }

    private static void ruledTerms() {
        edge(53, "the first n elements (1 to 40)", () -> {
            UnexpectedBell x = after(fresh(), "term(1)", "row(0, 3, 40)");
            runs(x, "rules(0, 40, 0) = 1", "rules(0, 40, 1) = 1", "rules(0, 1, 0) = 1", "rules(0, 0, 0) = -2",
                "rules(0, 41, 0) = -2", "set(0, 39, 1) = 1", "rules(0, 40, 0) = -2", "rules(0, 39, 0) = 1");
        });
        edge(53, "told they are numbers (1, 0)", () -> runs(lively(), "rules(2, 2, 0) = 1", "rules(2, 2, 1) = 32",
            "rules(2, 3, 0) = 0"));
        edge(53, "BAD: fewer elements, no MORNINGS.", () -> {
            refused(BAD, Edge::lively, "rules(0, 7, 0)", "rules(7, 1, 0)", "rules(5, 40, 1)", "rules(1, 1, 0)");
            runs(told(0, 5, 6), "rules(6, 1, 0) = 6", "rules(6, 2, 0) = -2");
            for (long no : new long[] {6, 8, 9, -1, 100, 1L << 32, (1L << 32) + 1, Long.MAX_VALUE, Long.MIN_VALUE}) {
                refused(BAD, () -> told(3, 1, no), "rules(6, 2, 0)", "rules(6, 2, 1)");
            }
        });
    }

    private static void ruleRefusals() {
        edge(53, "BAD SHELF, n, what", () -> refused(BAD, Edge::lively, "rules(-1, 1, 0)", "rules(8, 1, 0)",
            "rules(0, 0, 0)", "rules(0, -1, 0)", "rules(5, 41, 0)", "rules(0, 1, -1)", "rules(0, 1, 2)",
            "rules(-2147483648, 1, 0)", "rules(2147483647, 1, 0)", "rules(0, -2147483648, 0)",
            "rules(0, 2147483647, 0)", "rules(0, 1, -2147483648)", "rules(0, 1, 2147483647)"));
        edge(53, "BAD SHELF, n, what; OTHER", () -> refused(BAD, Edge::lively, "rules(3, 0, 0)", "rules(3, 41, 0)",
            "rules(3, 1, 2)", "rules(3, 1, -1)"));
        edge(53, "what; OTHER; NOTHING", () -> refused(BAD, Edge::lively, "rules(6, 0, 0)", "rules(6, 41, 0)",
            "rules(6, 1, 2)", "rules(6, 1, -1)"));
        edge(53, "OTHER", () -> refused(OTHER, Edge::lively, "rules(3, 1, 0)", "rules(4, 40, 1)"));
        edge(53, "NOTHING", () -> refused(NOTHING, Edge::lively, "rules(6, 1, 0)", "rules(6, 40, 1)"));
    }

    private static void lists() {
        edge(54, "the first that isn't so; NONE.", () -> {
            unchanged(NONE, () -> told(2, 1, 0, 19, 1, 0, 9), "judge(6)");
            runs(told(0, 0, 0, 19, 1, 0, 9), "judge(6) = 0");
            runs(told(0, 1, 0, 19, 1, 0, 8), "judge(6) = 5");
            runs(told(0, 1, 0, 18, 1, 1, 9), "judge(6) = 2");
            runs(told(0, 1, 0, 19, 1, 16, 9), "judge(6) = 4");
        });
        edge(54, "an element for each MORNING", () -> {
            runs(told(2, 1, 0, 19, 1, 0), "judge(6) = -2");
            runs(told(2, 1, 0, 19, 1, 0, 9, 63, 63), "judge(6) = -1");
            runs(told(2, 2, 0, 19, 1, 0), "judge(6) = -2");
        });
        edge(55, "How many times somebody is told there to EXPECT it who doesn't, or not to who does.", () -> {
            unchanged(0, () -> told(2, 1, 0, 19, 1, 0, 9), "unlike(6)");
            runs(told(2, 0, 0, 0, 0, 0, 0), "unlike(6) = 7");
            runs(told(2, 31, 31, 31, 31, 31, 31), "unlike(6) = 23");
            runs(told(2, 1, 0, 19, 1, 0, 9, 63, 63), "unlike(6) = 0");
            runs(after(fresh(), "term(9)", "person(5, 0)", "person(5, 0)", "person(5, 0)", "person(5, 0)",
                "person(5, 0)", "person(5, 0)", "row(0, 0, 9)"), "unlike(0) = 54", "judge(0) = 0");
        });
    }

    private static void bitsOfPeople() {
        edge(54, "(bits of PEOPLE there are alone)", () -> {
            runs(told(3, 1 + 32, 64, 19 - 128, 1 + (1L << 40), 1L << 63, 9), "judge(6) = -1");
            runs(told(0, -31, 32, -13, 1, 0, 41), "judge(6) = -1");
            runs(after(fresh(), "row(0, 0, 5)", "set(0, 2, -1)"), "judge(0) = -1");
            runs(after(fresh(), "term(2)", "person(0, 0)", "row(0, 4, 2)", "set(0, 1, 1)"), "judge(0) = -1",
                "set(0, 0, 1) = 1", "judge(0) = 0");
        });
        edge(55, "(bits of PEOPLE there are alone)", () -> {
            runs(told(3, 1 + 32, 64, 19 - 128, 1 + (1L << 40), 1L << 63, 9), "unlike(6) = 0");
            runs(told(0, -1, -1, -1, -1, -1, -1), "unlike(6) = 23");
            runs(after(fresh(), "row(0, 3, 5)", "set(0, 2, -1)"), "unlike(0) = 0");
        });
    }

    private static void listRefusals(int number, String name) {
        edge(number, "BAD", () -> refused(BAD, Edge::lively, name + "(-1)", name + "(8)", name + "(-2147483648)",
            name + "(2147483647)"));
        edge(number, "OTHER", () -> refused(OTHER, Edge::lively, name + "(3)", name + "(4)"));
        edge(number, "NOTHING", () -> {
            refused(NOTHING, Edge::lively, name + "(6)");
            refused(NOTHING, Trial::fresh, name + "(0)");
        });
        edge(number, number == 54 ? "BAD: fewer elements." : "BAD likewise.", () -> {
            refused(BAD, Edge::lively, name + "(1)", name + "(2)", name + "(7)");
            refused(BAD, () -> told(2, 1, 0, 19, 1, 0), name + "(6)");
            refused(BAD, () -> after(fresh(), "term(9)", "row(0, 0, 8)"), name + "(0)");
        });
    }
}
