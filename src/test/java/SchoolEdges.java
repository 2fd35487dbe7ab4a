/** The edges of what the school is made of: promises 9 to 15, and 46 and 58 by which people change. */
final class SchoolEdges extends Edge {
    private SchoolEdges() {
    }

    static void all() {
        terms();
        people();
        allowing();
        weights();
        saying();
        unsaying();
        hinting();
        leaving();
        learning();
    }

    private static void terms() {
        edge(9, "n 1 to 9", () -> runs(fresh(), "term(1) = 5", "status(0) = 1", "status(3) = 1", "term(9) = 1",
            "status(0) = 9", "status(3) = 511", "term(10) = -2", "term(0) = -2", "status(0) = 9"));
        edge(9, "MORNINGS become n, all of them as at first: what they were.", () -> {
            runs(lively(), "term(6) = 6", "status(3) = 63", "status(4) = 6", "morningOf(0, 1) = 1",
                "morningOf(4, 0) = 1", "morningOf(5, 1) = 1");
            runs(after(lively(), "term(9)", "weight(8, 9)", "allow(8, false)", "term(2)"), "status(4) = 2",
                "term(9) = 2", "morningOf(8, 0) = 1", "morningOf(8, 1) = 1", "status(4) = 9");
        });
        edge(9, "MORNINGS become n", () -> runs(lively(), "term(3) = 6", "status(1) = 5", "status(2) = 2",
            "status(5) = 2", "status(8) = 14", "holds(3) = 12", "personOf(3, 1) = 4"));
        edge(9, "BAD.", () -> refused(BAD, Edge::lively, "term(0)", "term(-1)", "term(10)", "term(-2147483648)",
            "term(2147483647)"));
    }

    private static void people() {
        edge(10, "PEOPLE have numbers, 0 on, 6 at most", () -> runs(fresh(), "person(0, 1) = 0", "person(1, 2) = 1",
            "person(2, 3) = 2", "person(3, 4) = 3", "person(4, 5) = 4", "person(5, 6) = 5", "person(0, 0) = -6",
            "status(1) = 6"));
        edge(10, "each of a KIND", () -> runs(fresh(), "person(0, 0) = 0", "person(5, 0) = 1", "personOf(0, 0) = 0",
            "personOf(1, 0) = 5", "person(6, 0) = -2", "person(-1, 0) = -2"));
        edge(10, "a (0 to 9)", () -> runs(fresh(), "person(0, 0) = 0", "person(0, 9) = 1", "personOf(0, 1) = 0",
            "personOf(1, 1) = 9", "person(0, 10) = -2", "person(0, -1) = -2"));
        edge(10, "BAD", () -> refused(BAD, Edge::lively, "person(-1, 0)", "person(6, 0)", "person(0, -1)",
            "person(0, 10)", "person(-2147483648, 0)", "person(2147483647, 0)", "person(0, -2147483648)",
            "person(0, 2147483647)"));
        edge(10, "FULL", () -> refused(FULL, Edge::crowded, "person(0, 0)", "person(5, 9)"));
        edge(10, "BAD; FULL.", () -> refused(BAD, Edge::crowded, "person(6, 0)", "person(-1, 0)", "person(0, 10)",
            "person(0, -1)"));
        edge(10, "Somebody: the number.", () -> runs(crowded(), "leave() = 5", "person(2, 8) = 5",
            "personOf(5, 0) = 2", "personOf(5, 1) = 8"));
    }

    private static void allowing() {
        edge(11, "A MORNING is ALLOWED, or not: 1; 0 if it was so.", () -> runs(lively(), "allow(4, true) = 1",
            "status(3) = 63", "allow(0, false) = 1", "status(3) = 62", "allow(5, false) = 1", "status(3) = 30"));
        edge(11, "0 if it was so", () -> unchanged(0, Edge::lively, "allow(0, true)", "allow(5, true)",
            "allow(4, false)"));
        edge(11, "BAD.", () -> {
            refused(BAD, Edge::lively, "allow(-1, true)", "allow(6, true)", "allow(6, false)", "allow(-1, false)",
                "allow(8, true)", "allow(32, true)", "allow(-2147483648, true)", "allow(2147483647, false)");
            runs(after(fresh(), "term(9)"), "allow(8, false) = 1", "allow(9, false) = -2");
            runs(after(fresh(), "term(1)"), "allow(0, false) = 1", "allow(1, true) = -2", "status(3) = 0");
        });
    }

    private static void weights() {
        edge(12, "has a WEIGHT (0 to 9; 1 at first)", () -> runs(lively(), "weight(5, 9) = 2", "weight(5, 0) = 9",
            "weight(0, 0) = 3", "weight(0, 9) = 0", "morningOf(0, 1) = 9", "weight(0, 10) = -2",
            "weight(0, -1) = -2", "morningOf(0, 1) = 9"));
        edge(12, "WEIGHT of a MORNING becomes v: what it was.", () -> runs(lively(), "weight(4, 7) = 1",
            "morningOf(4, 1) = 7", "status(4) = 8", "allow(4, true) = 1", "status(4) = 15"));
        edge(12, "BAD.", () -> {
            refused(BAD, Edge::lively, "weight(-1, 0)", "weight(6, 0)", "weight(0, -1)", "weight(0, 10)",
                "weight(8, 1)", "weight(9, 1)", "weight(-2147483648, 0)", "weight(2147483647, 0)",
                "weight(0, -2147483648)", "weight(0, 2147483647)", "weight(6, 10)");
            runs(after(fresh(), "term(9)"), "weight(8, 3) = 1", "weight(9, 3) = -2");
        });
    }

    private static void saying() {
        edge(13, "It is said once more that nobody will expect it: SAID.", () -> runs(after(fresh(), "unsay(0)"),
            "say() = 1", "say() = 2", "status(2) = 2"));
        edge(13, "FULL: 9 already.", () -> {
            runs(after(fresh(), "unsay(8)"), "say() = 9", "say() = -6", "say() = -6", "status(2) = 9");
            refused(FULL, () -> after(lively(), "unsay(9)"), "say()");
        });
    }

    private static void unsaying() {
        edge(14, "SAID becomes v: what it was.", () -> runs(lively(), "unsay(0) = 2", "unsay(9) = 0", "unsay(9) = 9",
            "status(2) = 9"));
        edge(14, "BAD.", () -> refused(BAD, Edge::lively, "unsay(-1)", "unsay(10)", "unsay(-2147483648)",
            "unsay(2147483647)"));
    }

    private static void hinting() {
        edge(15, "MORNINGS not of a set (bits) aren't ALLOWED any more: how many are still.",
            () -> runs(lively(), "hint(63) = 5", "status(3) = 47", "hint(48) = 1", "status(3) = 32", "hint(31) = 0",
                "status(3) = 0", "hint(63) = 0", "status(3) = 0"));
        edge(15, "how many are still", () -> {
            runs(lively(), "hint(0) = 0", "status(3) = 0");
            runs(after(fresh(), "term(9)"), "hint(511) = 9", "hint(256) = 1", "status(3) = 256");
            runs(after(fresh(), "term(1)"), "hint(1) = 1", "hint(0) = 0");
        });
        edge(15, "BAD: others than there are.", () -> {
            refused(BAD, Edge::lively, "hint(64)", "hint(65)", "hint(127)", "hint(-1)", "hint(-2147483648)",
                "hint(2147483647)", "hint(512)", "hint(-64)");
            refused(BAD, () -> after(fresh(), "term(9)"), "hint(512)", "hint(1023)", "hint(-512)");
            refused(BAD, () -> after(fresh(), "term(1)"), "hint(2)", "hint(3)");
        });
    }

    private static void leaving() {
        edge(46, "The last of the PEOPLE goes: how many are left", () -> runs(crowded(), "leave() = 5",
            "personOf(4, 0) = 3", "personOf(5, 0) = -2", "leave() = 4", "leave() = 3", "leave() = 2", "leave() = 1",
            "leave() = 0", "status(1) = 0", "leave() = -5"));
        edge(46, "The last of the PEOPLE goes", () -> {
            // An usher who would expect it on 2, sleep on 0, foresee the pupil and be the deepest.
            runs(after(fresh(), "unsay(9)", "person(0, 0)", "person(3, 1)"), "leave() = 1", "foreseen(0) = 0",
                "deepest() = 0", "asleep(0) = 0", "agree(4) = 0", "who(2) = 0", "surprises() = 15", "level(2) = -1",
                "crowd(1) = 31", "hints(1) = 4", "best(1, 2) = 0", "spoiler() = 0", "seed(0) = 1", "ring() = 0",
                "status(6) = 1", "personOf(1, 0) = -2", "person(4, 0) = 1", "personOf(1, 2) = 1");
        });
        edge(46, "(SHELVES that hold them hold NOTHING)", () -> runs(after(lively(), "show(0, 4)", "show(7, 4)"),
            "leave() = 4", "holds(0) = -1", "holds(4) = -1", "holds(7) = -1", "holds(3) = 12", "holds(1) = 3",
            "says(4, 0) = -4", "person(0, 0) = 4", "holds(4) = -1"));
        edge(46, "STUCK: none.", () -> refused(STUCK, Trial::fresh, "leave()"));
    }

    private static void learning() {
        edge(58, "a of somebody becomes v: what it was.", () -> runs(lively(), "learn(0, 0) = 3", "learn(0, 9) = 0",
            "personOf(0, 1) = 9", "learn(4, 5) = 1", "personOf(4, 1) = 5", "personOf(4, 0) = 3"));
        edge(58, "BAD.", () -> {
            refused(BAD, Edge::lively, "learn(-1, 0)", "learn(5, 0)", "learn(0, -1)", "learn(0, 10)",
                "learn(-2147483648, 0)", "learn(2147483647, 0)", "learn(0, -2147483648)", "learn(0, 2147483647)",
                "learn(5, 10)");
            refused(BAD, Trial::fresh, "learn(0, 0)");
        });
    }
}
