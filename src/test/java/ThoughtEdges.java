/** The edges of what people think, expect and foresee: promises 19 to 28, 39 to 42 and 45. */
final class ThoughtEdges extends Edge {
    private ThoughtEdges() {
    }

    static void all() {
        depths();
        wiseDepths();
        people();
        mornings();
        thinking();
        pupils();
        sleepers();
        bettors();
        expectRefusals();
        whoAndWhen();
        lastOnes();
        agreeing();
        surprising();
        foreseeing();
        deepest();
        sleeping();
        longest();
    }

    private static void depths() {
        edge(19, "PUPIL (SLEEPER, BETTOR, SURE): a, SAID at most.", () -> {
            for (int kind : new int[] {0, 1, 2, 5}) {
                runs(after(fresh(), "person(" + kind + ", 3)"), "unsay(2) = 1", "personOf(0, 2) = 2", "unsay(3) = 2",
                    "personOf(0, 2) = 3", "unsay(4) = 3", "personOf(0, 2) = 3", "unsay(0) = 4", "personOf(0, 2) = 0",
                    "unsay(9) = 0", "learn(0, 9) = 3", "personOf(0, 2) = 9", "learn(0, 0) = 9", "personOf(0, 2) = 0");
            }
        });
        edge(19, "USHER: 1 more than that.", () -> runs(after(fresh(), "person(3, 3)"), "unsay(2) = 1",
            "personOf(0, 2) = 3", "unsay(4) = 2", "personOf(0, 2) = 4", "unsay(0) = 4", "personOf(0, 2) = 1",
            "unsay(9) = 0", "learn(0, 9) = 3", "personOf(0, 2) = 10", "learn(0, 0) = 9", "personOf(0, 2) = 1"));
    }

    private static void wiseDepths() {
        edge(19, "WISE: 1 more than the greatest DEPTH of all who aren't WISE, SAID at most", () -> {
            runs(after(fresh(), "person(4, 9)", "person(0, 2)", "person(4, 0)", "person(1, 3)"), "unsay(5) = 1",
                "personOf(0, 2) = 4", "personOf(2, 2) = 4", "unsay(4) = 5", "personOf(0, 2) = 4", "unsay(3) = 4",
                "personOf(0, 2) = 3", "unsay(0) = 3", "personOf(0, 2) = 0", "personOf(2, 2) = 0");
            runs(after(fresh(), "unsay(9)", "person(3, 9)", "person(4, 0)"), "personOf(0, 2) = 10",
                "personOf(1, 2) = 9", "learn(0, 7) = 9", "personOf(1, 2) = 9", "learn(0, 6) = 7",
                "personOf(1, 2) = 8");
            runs(after(fresh(), "unsay(9)", "person(4, 0)", "person(2, 0)"), "personOf(0, 2) = 1",
                "learn(1, 8) = 0", "personOf(0, 2) = 9", "learn(1, 9) = 8", "personOf(0, 2) = 9");
        });
        edge(19, "0, if all are WISE.", () -> runs(after(fresh(), "unsay(9)", "person(4, 9)"), "personOf(0, 2) = 0",
            "person(4, 5) = 1", "personOf(0, 2) = 0", "personOf(1, 2) = 0", "person(0, 0) = 2",
            "personOf(0, 2) = 1"));
    }

    private static void people() {
        edge(19, "MORNINGS on which they EXPECT it (3, bits)", () -> {
            runs(lively(), "personOf(0, 3) = 45", "personOf(1, 3) = 4", "personOf(2, 3) = 0", "personOf(3, 3) = 32");
            runs(after(fresh(), "term(9)", "person(2, 0)"), "personOf(0, 3) = 511", "hint(0) = 0",
                "personOf(0, 3) = 0");
        });
        edge(19, "KIND (0), a (1), DEPTH (2)", () -> runs(crowded(), "personOf(0, 0) = 5", "personOf(0, 1) = 3",
            "personOf(0, 2) = 2", "personOf(5, 0) = 4", "personOf(5, 1) = 0", "personOf(5, 2) = 2"));
        edge(19, "BAD.", () -> {
            refused(BAD, Edge::lively, "personOf(-1, 0)", "personOf(5, 0)", "personOf(0, -1)", "personOf(0, 4)",
                "personOf(-2147483648, 0)", "personOf(2147483647, 3)", "personOf(0, -2147483648)",
                "personOf(0, 2147483647)", "personOf(5, 4)");
            refused(BAD, Trial::fresh, "personOf(0, 0)");
            refused(BAD, Edge::crowded, "personOf(6, 0)");
        });
    }

    private static void mornings() {
        edge(20, "STILL on a MORNING m: those ALLOWED from m on.", () -> runs(lively(), "morningOf(0, 2) = 47",
            "morningOf(1, 2) = 46", "morningOf(4, 2) = 32", "morningOf(5, 2) = 32", "allow(5, false) = 1",
            "morningOf(5, 2) = 0", "morningOf(4, 2) = 0", "morningOf(3, 2) = 8"));
        edge(20, "all WEIGHTS of STILL (3)", () -> runs(lively(), "morningOf(0, 3) = 8", "morningOf(4, 3) = 2",
            "morningOf(5, 3) = 2", "weight(5, 0) = 2", "morningOf(5, 3) = 0", "morningOf(3, 3) = 1",
            "weight(4, 9) = 1", "morningOf(4, 3) = 0", "term(9) = 6", "weight(0, 9) = 1", "morningOf(0, 3) = 17",
            "morningOf(8, 3) = 1"));
        edge(20, "1 if it is ALLOWED (0), WEIGHT (1)", () -> runs(lively(), "morningOf(4, 0) = 0",
            "morningOf(4, 1) = 1", "morningOf(5, 0) = 1", "morningOf(5, 1) = 2"));
        edge(20, "BAD.", () -> {
            refused(BAD, Edge::lively, "morningOf(-1, 0)", "morningOf(6, 0)", "morningOf(0, -1)", "morningOf(0, 4)",
                "morningOf(-2147483648, 0)", "morningOf(2147483647, 3)", "morningOf(0, -2147483648)",
                "morningOf(0, 2147483647)", "morningOf(6, 4)", "morningOf(8, 1)");
            runs(after(fresh(), "term(9)"), "morningOf(8, 0) = 1", "morningOf(9, 0) = -2", "term(1) = 9",
                "morningOf(1, 2) = -2");
        });
    }

    private static void thinking() {
        edge(21, "CAN of somebody on m: ALLOWED without its last ones, as many as DEPTH is", () -> runs(lively(),
            "can(1, 0) = 7", "can(2, 0) = 15", "unsay(0) = 2", "can(1, 0) = 47", "can(4, 0) = 15"));
        edge(21, "(none left, if there are no more)", () -> {
            runs(lively(), "hint(35) = 3", "can(1, 0) = 1", "hint(3) = 2", "can(1, 0) = 0", "can(2, 0) = 1",
                "hint(1) = 1", "can(1, 0) = 0", "can(2, 0) = 0", "hint(0) = 0", "can(2, 0) = 0", "unsay(0) = 2",
                "can(1, 0) = 0");
            runs(after(fresh(), "term(9)", "unsay(9)", "person(3, 9)", "person(0, 9)", "person(0, 8)"),
                "can(0, 0) = 0", "can(1, 0) = 0", "can(2, 0) = 1");
        });
        edge(21, "from m on", () -> runs(lively(), "can(1, 1) = 6", "can(1, 2) = 4", "can(1, 3) = 0",
            "can(1, 5) = 0", "unsay(0) = 2", "can(1, 4) = 32", "can(1, 5) = 32"));
        edge(21, "BAD.", () -> {
            refused(BAD, Edge::lively, "can(-1, 0)", "can(5, 0)", "can(0, -1)", "can(0, 6)", "can(-2147483648, 0)",
                "can(2147483647, 0)", "can(0, -2147483648)", "can(0, 2147483647)", "can(5, 6)");
            refused(BAD, Trial::fresh, "can(0, 0)");
        });
    }

    private static void pupils() {
        edge(22, "A PUPIL EXPECTS it on m, if CAN is m alone.", () -> {
            runs(lively(), "expects(1, 0) = 0", "expects(1, 1) = 0", "expects(1, 2) = 1", "expects(1, 3) = 0",
                "expects(1, 5) = 0");
            // One morning alone, but another one than m.
            runs(after(lively(), "unsay(0)"), "can(1, 4) = 32", "expects(1, 4) = 0", "expects(1, 5) = 1",
                "hint(4) = 1", "can(1, 0) = 4", "expects(1, 0) = 0", "expects(1, 2) = 1");
            runs(after(lively(), "hint(3)"), "expects(1, 0) = 0", "expects(1, 1) = 0");
            runs(after(closed(), "unsay(0)"), "expects(0, 0) = 0", "expects(0, 4) = 0");
        });
        edge(22, "WISE: as PUPIL.", () -> runs(after(fresh(), "unsay(0)", "person(4, 0)"), "expects(0, 4) = 1",
            "expects(0, 3) = 0", "term(1) = 5", "expects(0, 0) = 1", "weight(0, 0) = 1", "expects(0, 0) = 1"));
    }

    private static void sleepers() {
        edge(22, "SLEEPER (USHER): so, but on no m that is a multiple of 2 and a modulo 3.", () -> {
            int[] onFour = {0, 1, 0, 0, 1, 0, 0, 1, 0, 0};
            for (int a = 0; a < 10; a++) {
                UnexpectedBell x = after(fresh(), "unsay(0)", "person(1, " + a + ")");
                due("a sleeper of " + a + " on 4", x.expects(0, 4), onFour[a]);
                due("on 3, no morning alone", x.expects(0, 3), 0);
                due("on 0, a multiple of all", after(x, "term(1)").expects(0, 0), 0);
            }
        });
        edge(22, "SLEEPER (USHER): so, but", () -> {
            int[] onThree = {1, 0, 1, 1, 0, 1, 1, 0, 1, 1};
            for (int a = 0; a < 10; a++) {
                UnexpectedBell x = after(fresh(), "unsay(0)", "person(3, " + a + ")");
                due("an usher of " + a + " on 3", x.expects(0, 3), onThree[a]);
                due("on 4, one less deep", x.expects(0, 4), 0);
                due("on 0, a multiple of all", after(x, "term(2)").expects(0, 0), 0);
            }
        });
    }

    private static void bettors() {
        edge(22, "is a times all WEIGHTS of STILL, at least", () -> runs(after(fresh(), "person(2, 2)"),
            "expects(0, 0) = 1", "learn(0, 3) = 2", "expects(0, 0) = 0", "learn(0, 5) = 3", "expects(0, 3) = 1",
            "expects(0, 2) = 0", "learn(0, 6) = 5", "expects(0, 3) = 0", "expects(0, 4) = 1", "learn(0, 9) = 6",
            "expects(0, 4) = 1", "weight(3, 9) = 1", "expects(0, 3) = 1", "weight(3, 8) = 9", "expects(0, 3) = 0"));
        edge(22, "and not 0", () -> runs(after(fresh(), "person(2, 0)", "weight(2, 0)"), "expects(0, 2) = 0",
            "expects(0, 3) = 1", "weight(4, 0) = 1", "expects(0, 4) = 0", "weight(3, 0) = 1", "expects(0, 3) = 0",
            "expects(0, 1) = 1"));
        edge(22, "BETTOR: EXPECTS it on m, if m is ALLOWED", () -> runs(after(fresh(), "person(2, 0)",
            "allow(2, false)"), "expects(0, 2) = 0", "expects(0, 1) = 1", "hint(0) = 0", "expects(0, 1) = 0"));
        edge(22, "SURE: as BETTOR, or as PUPIL.", () -> runs(after(fresh(), "person(5, 9)"), "expects(0, 4) = 1",
            "expects(0, 3) = 1", "expects(0, 2) = 0", "weight(4, 0) = 1", "expects(0, 4) = 0", "weight(3, 0) = 1",
            "expects(0, 3) = 1", "expects(0, 2) = 1", "allow(4, false) = 1", "expects(0, 3) = 0"));
    }

    private static void expectRefusals() {
        edge(22, "BAD.", () -> {
            refused(BAD, Edge::lively, "expects(-1, 0)", "expects(5, 0)", "expects(0, -1)", "expects(0, 6)",
                "expects(-2147483648, 0)", "expects(2147483647, 0)", "expects(0, -2147483648)",
                "expects(0, 2147483647)", "expects(5, 6)");
            refused(BAD, Trial::fresh, "expects(0, 0)");
        });
    }

    private static void whoAndWhen() {
        edge(23, "Who EXPECTS it on m (bits).", () -> {
            runs(lively(), "who(0) = 1", "who(1) = 0", "who(2) = 19", "who(3) = 1", "who(4) = 0", "who(5) = 9");
            runs(fresh(), "who(0) = 0", "who(4) = 0");
            runs(after(fresh(), "person(5, 0)", "person(5, 0)", "person(5, 0)", "person(5, 0)", "person(5, 0)",
                "person(5, 0)"), "who(0) = 63", "who(4) = 63");
        });
        edge(23, "BAD.", () -> refused(BAD, Edge::lively, "who(-1)", "who(6)", "who(8)", "who(-2147483648)",
            "who(2147483647)"));
        edge(24, "The first MORNING on which somebody EXPECTS it; NONE.", () -> runs(lively(), "first(0) = 0",
            "first(1) = 2", "first(3) = 5", "weight(0, 0) = 3", "first(0) = 2"));
        edge(24, "(NONE isn't refused.)", () -> {
            unchanged(NONE, Edge::lively, "first(2)");
            unchanged(NONE, Edge::closed, "first(0)", "first(1)");
        });
        edge(24, "BAD.", () -> {
            refused(BAD, Edge::lively, "first(-1)", "first(5)", "first(-2147483648)", "first(2147483647)");
            refused(BAD, Trial::fresh, "first(0)");
        });
    }

    private static void lastOnes() {
        edge(25, "The last MORNING of somebody's CAN on MORNING 0; NONE.", () -> runs(lively(), "lasts(1) = 2",
            "lasts(2) = 3", "lasts(3) = 2", "hint(7) = 3", "lasts(1) = 0", "unsay(0) = 2", "lasts(1) = 2"));
        edge(25, "(NONE isn't refused.)", () -> {
            unchanged(NONE, () -> after(lively(), "hint(3)"), "lasts(1)", "lasts(0)");
            unchanged(NONE, Edge::closed, "lasts(0)");
        });
        edge(25, "BAD.", () -> {
            refused(BAD, Edge::lively, "lasts(-1)", "lasts(5)", "lasts(-2147483648)", "lasts(2147483647)");
            refused(BAD, Trial::fresh, "lasts(0)");
        });
        edge(26, "The last ALLOWED MORNING; NONE.", () -> {
            runs(lively(), "ends() = 5", "allow(5, false) = 1", "ends() = 3", "hint(1) = 1", "ends() = 0");
            runs(after(fresh(), "term(9)"), "ends() = 8");
        });
        edge(26, "NONE", () -> unchanged(NONE, Edge::closed, "ends()"));
    }

    private static void agreeing() {
        edge(27, "How many pairs of PEOPLE have the same CAN on m.", () -> {
            runs(lively(), "agree(0) = 6", "agree(3) = 6", "agree(4) = 10", "agree(5) = 10");
            runs(fresh(), "agree(0) = 0", "person(0, 0) = 0", "agree(0) = 0", "person(2, 0) = 1", "agree(0) = 1");
            runs(after(crowded(), "hint(0)"), "agree(0) = 15");
        });
        edge(27, "BAD.", () -> refused(BAD, Edge::lively, "agree(-1)", "agree(6)", "agree(8)", "agree(-2147483648)",
            "agree(2147483647)"));
    }

    private static void surprising() {
        edge(28, "BY SURPRISE: MORNINGS ALLOWED on which nobody EXPECTS it.", () -> {
            runs(fresh(), "surprises() = 31", "allow(2, false) = 1", "surprises() = 27", "hint(0) = 0",
                "surprises() = 0");
            runs(lively(), "surprises() = 2", "leave() = 4", "surprises() = 2");
            runs(after(fresh(), "term(9)"), "surprises() = 511", "person(2, 0) = 0", "surprises() = 0");
        });
        edge(28, "BY SURPRISE (bits).", () -> {
            unchanged(0, Edge::closed, "surprises()");
            unchanged(2, Edge::lively, "surprises()");
        });
    }

    private static void foreseeing() {
        edge(39, "has less DEPTH: 1, 0.", () -> runs(lively(), "foresees(1, 2) = 1", "foresees(2, 1) = 0",
            "foresees(1, 4) = 0", "foresees(4, 1) = 0", "unsay(0) = 2", "foresees(4, 1) = 1"));
        edge(39, "that one is neither BETTOR nor SURE", () -> runs(after(lively(), "learn(1, 9)", "unsay(9)"),
            "foresees(1, 0) = 0", "foresees(1, 3) = 0", "foresees(1, 2) = 1", "foresees(1, 4) = 1",
            "foresees(3, 2) = 1", "foresees(0, 2) = 1", "foresees(3, 0) = 0"));
        edge(39, "BAD: also the same.", () -> {
            refused(BAD, Edge::lively, "foresees(0, 0)", "foresees(4, 4)", "foresees(-1, 0)", "foresees(5, 0)",
                "foresees(0, -1)", "foresees(0, 5)", "foresees(-2147483648, 0)", "foresees(2147483647, 0)",
                "foresees(0, -2147483648)", "foresees(0, 2147483647)", "foresees(5, 5)", "foresees(-1, -1)");
            refused(BAD, Trial::fresh, "foresees(0, 0)", "foresees(0, 1)");
        });
        edge(40, "Who FORESEES one (bits).", () -> {
            runs(lively(), "foreseen(2) = 27", "foreseen(1) = 0", "foreseen(0) = 0", "foreseen(3) = 0");
            runs(after(fresh(), "person(0, 0)"), "foreseen(0) = 0");
            runs(crowded(), "foreseen(2) = 59", "foreseen(5) = 0");
            runs(after(fresh(), "person(0, 0)", "person(5, 1)", "person(5, 1)", "person(5, 1)", "person(5, 1)",
                "person(3, 0)"), "foreseen(0) = 62", "foreseen(5) = 0");
        });
        edge(40, "BAD.", () -> {
            refused(BAD, Edge::lively, "foreseen(-1)", "foreseen(5)", "foreseen(-2147483648)",
                "foreseen(2147483647)");
            refused(BAD, Trial::fresh, "foreseen(0)");
        });
    }

    private static void deepest() {
        edge(41, "Who has the greatest DEPTH, of several the first.", () -> {
            runs(lively(), "deepest() = 0", "learn(0, 1) = 3", "deepest() = 1", "learn(1, 1) = 2", "deepest() = 3",
                "unsay(0) = 2", "deepest() = 4");
            runs(after(fresh(), "person(4, 9)"), "deepest() = 0");
            runs(crowded(), "deepest() = 0", "learn(0, 0) = 3", "learn(1, 0) = 2", "learn(2, 0) = 1",
                "learn(3, 0) = 4", "learn(4, 0) = 1", "deepest() = 5");
        });
        edge(41, "STUCK: no PEOPLE.", () -> {
            refused(STUCK, Trial::fresh, "deepest()");
            refused(STUCK, () -> after(fresh(), "person(0, 0)", "leave()"), "deepest()");
        });
    }

    private static void sleeping() {
        edge(42, "Who sleeps on m (SLEEPERS, USHERS; bits).", () -> {
            runs(lively(), "asleep(0) = 20", "asleep(1) = 0", "asleep(2) = 0", "asleep(3) = 20", "asleep(4) = 0",
                "learn(4, 2) = 1", "asleep(4) = 16", "asleep(3) = 4");
            runs(fresh(), "asleep(0) = 0");
            runs(after(fresh(), "person(1, 0)", "person(3, 0)", "person(1, 0)", "person(3, 0)", "person(1, 0)",
                "person(3, 0)"), "asleep(0) = 63", "asleep(1) = 0", "asleep(4) = 63");
        });
        edge(42, "BAD.", () -> refused(BAD, Edge::lively, "asleep(-1)", "asleep(6)", "asleep(8)",
            "asleep(-2147483648)", "asleep(2147483647)"));
    }

    private static void longest() {
        edge(45, "The most MORNINGS one after the other that are BY SURPRISE.", () -> {
            runs(after(fresh(), "term(9)"), "longest() = 9", "allow(4, false) = 1", "longest() = 4",
                "allow(8, false) = 1", "longest() = 4", "allow(0, false) = 1", "longest() = 3",
                "allow(4, true) = 1", "longest() = 7");
            runs(after(fresh(), "term(9)", "allow(3, false)"), "longest() = 5");
            runs(lively(), "longest() = 1");
        });
        edge(45, "that are BY SURPRISE", () -> {
            unchanged(0, Edge::closed, "longest()");
            unchanged(0, () -> after(lively(), "person(2, 0)"), "longest()");
        });
    }
}
