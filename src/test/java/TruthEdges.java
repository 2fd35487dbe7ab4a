/** The edges of terms in truth, of images and of what can be seen of all: promises 56, 57 and 59 to 62. */
final class TruthEdges extends Edge {
    private TruthEdges() {
    }

    static void all() {
        draws();
        lots();
        counts();
        ringRefusals();
        rings();
        seeds();
        images();
        back();
        shelvesAfterBack();
        states();
        refusalCounts();
    }

    private static void draws() {
        edge(56, "SEED (1 at first) becomes SEED times 1103515245, and 12345 (an int, wrapping)", () -> {
            long[][] seeds = {{1, 1103527590}, {0, 12345}, {-1, -1103502900}, {MAX, 1043980748}, {MIN, -2147471303},
                {-1103515245, 1029543376}};
            for (long[] pair : seeds) {
                UnexpectedBell x = after(fresh(), "seed(" + pair[0] + ")", "ring()");
                due("the seed behind " + pair[0], x.status(9), pair[1]);
            }
        });
        edge(56, "its upper 16 bits, no sign, modulo n", () -> {
            int[][] seeds = {{1, 3}, {0, 0}, {-1, 2}, {MAX, 4}, {MIN, 3}, {-1103515245, 4}};
            for (int[] pair : seeds) {
                UnexpectedBell x = after(fresh(), "seed(" + pair[0] + ")");
                due("ring by the seed " + pair[0], x.ring(), pair[1]);
            }
        });
    }

    private static void lots() {
        edge(56, "(by MORNINGS, each as often as its WEIGHT)", () -> {
            // Seeds by which the draw below 8 is 0, 1 and so on.
            int[] seeds = {0, 4, 8, 3, 2, 11, 1, 5};
            int[] mornings = {0, 0, 0, 1, 2, 3, 5, 5};
            for (int i = 0; i < 8; i++) {
                runs(lively(), "weight(4, 9) = 1", "seed(" + seeds[i] + ") = " + lively().status(9),
                    "ring() = " + mornings[i]);
            }
        });
        edge(56, "a DRAW below all WEIGHTS of ALLOWED ones", () -> {
            UnexpectedBell x = after(fresh(), "term(9)", "weight(0, 9)", "weight(1, 9)", "weight(2, 9)",
                "weight(3, 9)", "weight(4, 9)", "weight(5, 9)", "weight(6, 9)", "weight(7, 9)", "weight(8, 9)");
            // By these the draw below 81 is 0, 8, 9, 71, 72 and 80.
            int[][] draws = {{0, 0}, {49, 0}, {35, 1}, {1, 7}, {142, 8}, {99, 8}};
            for (int[] pair : draws) {
                x.seed(pair[0]);
                due("ring by the seed " + pair[0], x.ring(), pair[1]);
            }
            x = after(fresh(), "term(9)", "hint(64)");
            for (int seed = -9; seed < 9; seed++) {
                x.seed(seed);
                due("the only one, by " + seed, x.ring(), 6);
            }
        });
    }

    private static void counts() {
        edge(56, "as many more as there are PEOPLE who don't EXPECT it", () -> {
            runs(after(fresh(), "person(0, 0)", "person(0, 1)", "person(0, 9)"), "ring() = 3", "status(5) = 1",
                "status(6) = 1", "status(7) = 1", "seed(0) = 1103527590", "ring() = 0", "status(5) = 2",
                "status(6) = 4", "status(7) = 1");
        });
        edge(56, "1 more, if somebody does; TERMS 1 more", () -> {
            runs(fresh(), "ring() = 3", "status(5) = 1", "status(6) = 0", "status(7) = 0");
            runs(after(fresh(), "person(5, 0)", "person(5, 0)"), "ring() = 3", "status(5) = 1", "status(6) = 0",
                "status(7) = 1");
        });
    }

    private static void ringRefusals() {
        edge(56, "STUCK: WEIGHTS of ALLOWED ones are 0.", () -> {
            refused(STUCK, Edge::weightless, "ring()");
            refused(STUCK, Edge::closed, "ring()");
            refused(STUCK, () -> after(weightless(), "weight(1, 5)", "allow(1, false)"), "ring()");
        });
        edge(57, "BAD", () -> refused(BAD, Edge::lively, "rings(0)", "rings(41)", "rings(-1)", "rings(-2147483648)",
            "rings(2147483647)"));
        edge(57, "STUCK likewise", () -> {
            refused(STUCK, Edge::weightless, "rings(1)", "rings(40)");
            refused(STUCK, Edge::closed, "rings(1)");
            refused(STUCK, () -> after(weightless(), "weight(1, 5)", "allow(1, false)"), "rings(1)");
        });
        edge(57, "BAD; STUCK", () -> refused(BAD, Edge::weightless, "rings(0)", "rings(41)"));
    }

    private static void rings() {
        edge(57, "n (1 to 40) of them", () -> {
            runs(fresh(), "rings(1) = 0", "status(5) = 1", "status(9) = 1103527590");
            runs(fresh(), "rings(40) = 0", "status(5) = 40", "status(9) = 1775811865", "rings(40) = 0",
                "status(5) = 80");
        });
        edge(57, "how many FAILED", () -> {
            runs(after(fresh(), "person(0, 1)"), "rings(40) = 7", "status(6) = 33", "status(7) = 7",
                "rings(1) = 0", "status(7) = 7");
            runs(after(fresh(), "person(5, 0)"), "rings(40) = 40", "rings(40) = 40", "status(7) = 80",
                "status(6) = 0");
        });
    }

    private static void seeds() {
        edge(59, "SEED becomes v: the one ahead.", () -> runs(fresh(), "seed(2147483647) = 1",
            "seed(-2147483648) = 2147483647", "seed(0) = -2147483648", "seed(-2) = 0", "status(9) = -2",
            "status(12) = 0"));
    }

    private static void images() {
        edge(60, "All is kept, but THE TAPE, SHELVES and REFUSALS: 1.", () -> {
            unchanged(1, () -> after(lively(), "image()"), "image()");
            runs(lively(), "image() = 1", "term(3) = 6", "leave() = 4", "unsay(9) = 2", "seed(8) = "
                + lively().status(9), "rings(5) = " + after(lively(), "term(3)", "leave()", "unsay(9)", "seed(8)")
                .rings(5), "back() = 1", "status(0) = 6", "status(1) = 5", "status(2) = 2", "status(3) = 47",
                "status(4) = 8", "status(5) = 2", "status(9) = " + lively().status(9));
        });
        edge(60, "All is kept", () -> runs(after(fresh(), "person(0, 0)", "person(0, 1)", "person(5, 0)", "rings(9)",
            "image()", "rings(9)", "seed(1)"), "back() = 1", "status(5) = 9", "status(6) = 13", "status(7) = 9",
            "status(9) = " + after(fresh(), "rings(9)").status(9)));
        edge(60, "All is kept", () -> runs(after(fresh(), "person(0, 9)", "person(1, 8)", "person(2, 7)",
            "person(3, 6)", "person(4, 5)", "person(5, 4)", "term(9)", "weight(8, 7)", "image()", "learn(5, 0)",
            "leave()", "leave()", "leave()", "leave()", "leave()", "leave()", "term(2)"), "back() = 1", "status(1) = 6",
            "personOf(0, 1) = 9", "personOf(1, 1) = 8", "personOf(2, 1) = 7", "personOf(3, 1) = 6",
            "personOf(4, 1) = 5", "personOf(5, 1) = 4", "personOf(0, 0) = 0", "personOf(5, 0) = 5",
            "morningOf(8, 1) = 7", "status(0) = 9"));
        edge(60, "All is kept", () -> {
            // The later image counts, as often as one goes back to it, whatever comes of the school then.
            runs(fresh(), "say() = 2", "image() = 1", "say() = 3", "image() = 1", "say() = 4", "back() = 1",
                "status(2) = 3", "unsay(9) = 3", "weight(0, 5) = 1", "person(0, 3) = 0", "back() = 1",
                "status(2) = 3", "morningOf(0, 1) = 1", "status(1) = 0");
        });
    }

    private static void back() {
        edge(61, "All is again as it was kept", () -> runs(after(fresh(), "term(9)", "weight(8, 4)", "allow(0, false)",
            "person(1, 5)", "unsay(7)", "seed(77)", "rings(9)", "image()", "person(2, 2)", "learn(0, 0)", "term(1)",
            "weight(0, 9)", "unsay(0)", "rings(3)"), "back() = 1", "status(0) = 9", "status(1) = 1", "status(2) = 7",
            "status(3) = 510", "status(4) = 11", "status(5) = 9", "personOf(0, 0) = 1", "personOf(0, 1) = 5",
            "morningOf(8, 1) = 4", "morningOf(0, 1) = 1", "morningOf(0, 0) = 0"));
        edge(61, "(SHELVES with somebody hold those of the same numbers, or NOTHING): 1.", () -> {
            runs(after(lively(), "show(0, 0)", "show(1, 1)"), "back() = 1", "status(1) = 1", "holds(0) = 10",
                "holds(1) = -1", "holds(3) = -1", "holds(4) = -1", "holds(2) = 4", "holds(5) = 0", "holds(7) = 2",
                "holds(6) = -1", "element(2, 2) = 1");
        });
        edge(61, "STUCK: nothing was.", () -> {
            refused(STUCK, Trial::fresh, "back()");
            refused(STUCK, Edge::weightless, "back()");
            refused(STUCK, Edge::closed, "back()");
        });
    }

    private static void shelvesAfterBack() {
        edge(61, "hold those of the same numbers", () -> runs(after(fresh(), "person(1, 2)", "image()", "leave()",
            "person(4, 0)", "show(2, 0)"), "says(2, 4) = 0", "back() = 1", "holds(2) = 10", "says(2, 4) = -3",
            "says(2, 1) = 2", "person(0, 0) = 1", "holds(2) = 10"));
        edge(61, "or NOTHING", () -> runs(after(fresh(), "image()", "person(0, 0)", "show(2, 0)"), "back() = 1",
            "holds(2) = -1", "status(10) = 0", "says(2, 0) = -4", "person(0, 0) = 0", "holds(2) = -1"));
        edge(61, "All is again as it was kept", () -> runs(lively(), "feed(32) = 15", "back() = 1", "status(8) = 15",
            "status(12) = 1", "status(13) = 2", "status(14) = 3", "status(15) = 1", "status(16) = 1",
            "element(0, 2) = 5", "school() = 2", "status(2) = 7"));
    }

    private static void states() {
        edge(62, "NONE another what.", () -> unchanged(NONE, Edge::lively, "status(-1)", "status(17)",
            "status(-2147483648)", "status(2147483647)"));
        edge(62, "MORNINGS (0), PEOPLE (1), SAID (2), ALLOWED (3, bits), all WEIGHTS of ALLOWED ones (4)",
            () -> runs(lively(), "status(0) = 6", "status(1) = 5", "status(2) = 2", "status(3) = 47",
                "status(4) = 8", "weight(4, 9) = 1", "status(4) = 8", "hint(0) = 0", "status(4) = 0",
                "status(3) = 0"));
        edge(62, "TERMS (5), FACES (6), FAILED (7), THE TAPE's size (8), SEED (9)", () -> runs(after(fresh(),
            "person(0, 0)", "person(0, 9)", "rings(9)", "feed(255)"), "status(5) = 9", "status(6) = 13",
            "status(7) = 5", "status(8) = 1", "seed(0) = " + after(fresh(), "rings(9)").status(9), "status(9) = 0"));
        edge(62, "SHELVES that hold something (10)", () -> {
            runs(lively(), "status(10) = 7", "row(6, 0, 0) = 1", "status(10) = 8", "show(6, 0) = 1",
                "status(10) = 8", "show(6, -1) = 1", "status(10) = 7");
            runs(fresh(), "status(10) = 0", "row(0, 4, 0) = 1", "status(10) = 1", "show(0, -1) = 1",
                "status(10) = 0");
        });
        edge(62, "MORNINGS BY SURPRISE (11, bits)", () -> {
            runs(lively(), "status(11) = 2");
            runs(closed(), "status(11) = 0");
            runs(after(fresh(), "term(9)"), "status(11) = 511");
        });
    }

    private static void refusalCounts() {
        edge(62, "12 to 16: REFUSALS -2 to -6", () -> {
            runs(lively(), "status(12) = 1", "status(13) = 2", "status(14) = 3", "status(15) = 1", "status(16) = 1");
            UnexpectedBell x = fresh();
            for (int i = 1; i <= 100; i++) {
                x.term(0);
                due("refused", x.status(12), i);
            }
        });
        edge(62, "REFUSALS -2 to -6", () -> runs(after(crowded(), "unsay(9)"), "gain(0, 0) = -10000002",
            "status(12) = 2", "book(3, 0) = -10000003", "status(13) = 3", "book(6, 0) = -10000004",
            "status(14) = 4", "hint(0) = 0", "book(2, 0) = -10000005", "status(15) = 2", "gain(0, 1) = -10000005",
            "status(15) = 3", "spoils(6) = -10000002", "status(12) = 3", "say() = -6", "person(0, 0) = -6",
            "status(16) = 3"));
        edge(62, "(the call answers the number; nothing changes but how many there were", () -> runs(fresh(),
            "status(-1) = -1", "holds(9) = -1", "element(9, 9) = 0", "ends() = 4", "bet(1) = 4", "fair(0) = 5",
            "will() = -1", "level(0) = -1", "status(12) = 0", "status(13) = 0", "status(14) = 0", "status(15) = 0",
            "status(16) = 0"));
    }
}
