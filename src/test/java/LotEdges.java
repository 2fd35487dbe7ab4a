/** The edges of lots and wagers: promises 29 to 31, 33, 34 and 47 to 50. */
final class LotEdges extends Edge {
    private LotEdges() {
    }

    static void all() {
        odds();
        likeliest();
        caught();
        gains();
        bets();
        upTo();
        means();
        fair();
        books();
        bookedElements();
        bookRefusals();
    }

    /** Morning 0 of weight 1, and all weights of the six mornings together. */
    private static UnexpectedBell oneOf(int all) {
        return after(fresh(), "term(6)", "weight(1, 9)", "weight(2, 9)", "weight(3, 9)", "weight(4, 9)",
            "weight(5, " + (all - 37) + ")");
    }

    private static void odds() {
        edge(29, "(0, if it isn't ALLOWED)", () -> {
            unchanged(0, Edge::lively, "odds(4)");
            runs(lively(), "weight(4, 9) = 1", "odds(4) = 0", "odds(0) = 375000", "weight(0, 0) = 3", "odds(0) = 0");
        });
        edge(29, "by all WEIGHTS of STILL on m (cut)", () -> {
            runs(lively(), "odds(0) = 375000", "odds(1) = 200000", "odds(3) = 333333", "odds(5) = 1000000");
            runs(after(fresh(), "term(3)", "weight(0, 4)"), "odds(0) = 666666");
            runs(after(fresh(), "term(1)", "weight(0, 9)"), "odds(0) = 1000000");
            runs(after(fresh(), "term(9)", "weight(8, 9)"), "odds(0) = 58823");
        });
        edge(29, "BAD", () -> refused(BAD, Edge::lively, "odds(-1)", "odds(6)", "odds(8)", "odds(-2147483648)",
            "odds(2147483647)"));
        edge(29, "STUCK: all WEIGHTS of STILL are 0.", () -> {
            refused(STUCK, Edge::weightless, "odds(0)", "odds(1)");
            refused(STUCK, Edge::closed, "odds(0)", "odds(4)");
            // Those ahead of it have weights, and so has one that isn't allowed.
            refused(STUCK, () -> after(lively(), "weight(5, 0)"), "odds(5)", "odds(4)");
        });
        edge(29, "BAD; STUCK", () -> refused(BAD, Edge::weightless, "odds(2)", "odds(-1)"));
    }

    private static void likeliest() {
        edge(30, "The MORNING with the greatest ODDS of those on which there are any, of several the first.", () -> {
            runs(lively(), "likeliest() = 5", "weight(5, 0) = 2", "likeliest() = 3", "weight(4, 9) = 1",
                "likeliest() = 3", "weight(3, 0) = 1", "weight(2, 0) = 1", "weight(1, 0) = 1", "likeliest() = 0");
            runs(after(fresh(), "term(1)"), "likeliest() = 0");
            runs(after(fresh(), "term(9)"), "likeliest() = 8", "weight(0, 0) = 1", "likeliest() = 8");
        });
        edge(30, "STUCK: none.", () -> {
            refused(STUCK, Edge::weightless, "likeliest()");
            refused(STUCK, Edge::closed, "likeliest()");
            refused(STUCK, () -> after(weightless(), "weight(1, 5)", "allow(1, false)"), "likeliest()");
        });
    }

    private static void caught() {
        edge(31, "by the WEIGHTS of all ALLOWED ones (cut)", () -> {
            runs(lively(), "caught() = 875000", "weight(4, 9) = 1", "caught() = 875000");
            runs(fresh(), "caught() = 0", "term(3) = 5", "person(0, 0) = 0", "caught() = 333333",
                "person(0, 1) = 1", "caught() = 666666", "person(5, 0) = 2", "caught() = 1000000");
        });
        edge(31, "STUCK: WEIGHTS of ALLOWED ones are 0.", () -> {
            refused(STUCK, Edge::weightless, "caught()");
            refused(STUCK, Edge::closed, "caught()");
            refused(STUCK, () -> after(weightless(), "weight(1, 5)", "allow(1, false)"), "caught()");
        });
    }

    private static void gains() {
        edge(33, "GAIN at w (1 to 40).", () -> runs(lively(), "gain(0, 1) = -625000", "gain(5, 40) = 39000000",
            "gain(5, 1) = 0", "gain(0, 3) = 125000", "gain(0, 40) = 14000000"));
        edge(33, "(cut), less 1,000,000", () -> runs(after(fresh(), "term(3)"), "gain(0, 1) = -666667",
            "gain(0, 2) = -333334", "gain(0, 3) = 0", "gain(0, 4) = 333333", "weight(0, 9) = 1",
            "gain(0, 40) = 31727272"));
        edge(33, "WEIGHT (0, if m isn't ALLOWED)", () -> {
            unchanged(-1000000, Edge::lively, "gain(4, 1)", "gain(4, 40)");
            runs(lively(), "weight(4, 9) = 1", "gain(4, 40) = -1000000", "weight(0, 0) = 3",
                "gain(0, 40) = -1000000");
        });
        edge(33, "-10000002", () -> refused(FAR + BAD, Edge::lively, "gain(-1, 1)", "gain(6, 1)", "gain(0, 0)",
            "gain(0, 41)", "gain(0, -1)", "gain(-2147483648, 1)", "gain(2147483647, 1)", "gain(0, -2147483648)",
            "gain(0, 2147483647)", "gain(6, 41)"));
        edge(33, "-10000005: all WEIGHTS of STILL are 0.", () -> {
            refused(FAR + STUCK, Edge::weightless, "gain(0, 1)", "gain(1, 40)");
            refused(FAR + STUCK, Edge::closed, "gain(0, 1)");
            refused(FAR + STUCK, () -> after(lively(), "weight(5, 0)"), "gain(5, 1)", "gain(4, 1)");
        });
        edge(33, "-10000002; -10000005", () -> refused(FAR + BAD, Edge::weightless, "gain(2, 1)", "gain(-1, 1)",
            "gain(0, 0)", "gain(0, 41)"));
    }

    private static void bets() {
        edge(34, "BET: the first MORNING ALLOWED of which that isn't below 0.", () -> {
            runs(lively(), "bet(40) = 0", "bet(3) = 0", "bet(2) = 5", "bet(1) = 5", "allow(5, false) = 1",
                "bet(1) = 3");
            runs(fresh(), "bet(5) = 0", "bet(4) = 1", "bet(3) = 2", "bet(2) = 3", "bet(1) = 4");
        });
        edge(34, "NONE (one of which all WEIGHTS of STILL are 0 is left out).", () -> {
            runs(after(lively(), "weight(5, 0)"), "bet(1) = 3", "weight(3, 0) = 1", "bet(1) = 2");
            runs(after(fresh(), "weight(0, 0)"), "bet(40) = 1", "allow(1, false) = 1", "bet(40) = 2");
        });
        edge(34, "(NONE isn't refused.)", () -> {
            unchanged(NONE, Edge::weightless, "bet(1)", "bet(40)");
            unchanged(NONE, Edge::closed, "bet(40)");
        });
        edge(34, "BAD.", () -> {
            refused(BAD, Edge::lively, "bet(0)", "bet(41)", "bet(-1)", "bet(-2147483648)", "bet(2147483647)");
            refused(BAD, Edge::weightless, "bet(0)", "bet(41)");
        });
    }

    private static void upTo() {
        edge(47, "up to m (m, too) by those of all ALLOWED ones (cut)", () -> {
            runs(lively(), "by(0) = 375000", "by(1) = 500000", "by(3) = 750000", "by(4) = 750000", "by(5) = 1000000",
                "weight(4, 9) = 1", "by(4) = 750000", "weight(0, 0) = 3", "by(0) = 0", "allow(1, false) = 1",
                "by(1) = 0", "by(2) = 250000");
            runs(after(fresh(), "term(3)"), "by(0) = 333333", "by(1) = 666666", "by(2) = 1000000");
            runs(after(fresh(), "term(9)"), "by(8) = 1000000", "by(7) = 888888");
        });
        edge(47, "BAD", () -> refused(BAD, Edge::lively, "by(-1)", "by(6)", "by(8)", "by(-2147483648)",
            "by(2147483647)"));
        edge(47, "STUCK: these are 0.", () -> {
            refused(STUCK, Edge::weightless, "by(0)", "by(1)");
            refused(STUCK, Edge::closed, "by(4)");
            refused(STUCK, () -> after(weightless(), "weight(1, 5)", "allow(1, false)"), "by(1)");
        });
        edge(47, "BAD; STUCK", () -> refused(BAD, Edge::weightless, "by(2)", "by(-1)"));
    }

    private static void means() {
        edge(48, "by the WEIGHTS of all (cut)", () -> {
            runs(lively(), "mean() = 2000", "weight(4, 9) = 1", "mean() = 2000");
            runs(after(fresh(), "term(3)", "weight(0, 0)", "weight(1, 2)"), "mean() = 1333");
            runs(after(fresh(), "term(1)", "weight(0, 9)"), "mean() = 0");
            runs(after(fresh(), "term(9)", "hint(256)", "weight(8, 9)"), "mean() = 8000");
        });
        edge(48, "STUCK: these are 0.", () -> {
            refused(STUCK, Edge::weightless, "mean()");
            refused(STUCK, Edge::closed, "mean()");
            refused(STUCK, () -> after(weightless(), "weight(1, 5)", "allow(1, false)"), "mean()");
        });
    }

    private static void fair() {
        edge(49, "The least w (1 to 40) by which GAIN on m isn't below 0", () -> {
            runs(lively(), "fair(0) = 3", "fair(1) = 5", "fair(3) = 3", "fair(5) = 1");
            runs(oneOf(40), "fair(0) = 40", "fair(1) = 5");
            runs(oneOf(39), "fair(0) = 39");
        });
        edge(49, "NONE (also if all WEIGHTS of STILL are 0).", () -> {
            unchanged(NONE, Edge::weightless, "fair(0)", "fair(1)");
            unchanged(NONE, Edge::closed, "fair(0)");
            unchanged(NONE, () -> after(lively(), "weight(5, 0)"), "fair(5)", "fair(4)");
        });
        edge(49, "(NONE isn't refused.)", () -> {
            unchanged(NONE, Edge::lively, "fair(4)");
            unchanged(NONE, () -> after(lively(), "weight(0, 0)"), "fair(0)");
            unchanged(NONE, () -> oneOf(41), "fair(0)");
        });
        edge(49, "BAD.", () -> {
            refused(BAD, Edge::lively, "fair(-1)", "fair(6)", "fair(8)", "fair(-2147483648)", "fair(2147483647)");
            refused(BAD, Edge::weightless, "fair(2)");
        });
    }

    private static void books() {
        edge(50, "Told wagers by the first n elements (0 to 5)", () -> {
            UnexpectedBell x = lively();
            tell(x, 6, 2, 3, 520, 1, 105, 301, 0);
            runs(x, "book(6, 0) = 0", "book(6, 1) = 125000", "book(6, 2) = 4125000", "book(6, 3) = 3500000",
                "book(6, 4) = 3125000", "book(6, 5) = 2250000", "book(6, 6) = -10000002", "book(7, 0) = 0");
            tell(x, 6, 2, 501, 301, 201, 540);
            runs(x, "book(6, 1) = -750000", "book(6, 4) = 6500000");
            // Behind the first n there may stand what is no wager.
            tell(x, 6, 2, 3, 41);
            runs(x, "book(6, 1) = 125000", "book(6, 2) = -10000002");
        });
        edge(50, "1,000,000 times the WEIGHT (0, if it isn't ALLOWED) times w by the WEIGHTS of all ALLOWED ones (cut)",
            () -> {
                UnexpectedBell x = lively();
                tell(x, 6, 1, 440, 440);
                runs(x, "book(6, 2) = -2000000", "weight(4, 9) = 1", "book(6, 2) = -2000000");
                x = after(fresh(), "term(3)");
                tell(x, 0, 0, 1, 1, 1, 101, 2);
                // Each is cut by itself: 666,667 less than nothing four times, 333,334 once.
                runs(x, "book(0, 1) = -666667", "book(0, 3) = -2000001", "book(0, 5) = -3000002");
                x = after(fresh(), "term(1)", "weight(0, 9)");
                tell(x, 0, 0, 40, 40, 40, 40, 40);
                runs(x, "book(0, 5) = 195000000");
            });
        edge(50, "told they are numbers (1, 0)", () -> runs(lively(), "book(2, 1) = -625000",
            "book(2, 2) = -10000002"));
    }

    private static UnexpectedBell booking(long told) {
        UnexpectedBell x = lively();
        tell(x, 6, 3, 1, told);
        return x;
    }

    private static void bookedElements() {
        edge(50, "each 100 times a MORNING and w (1 to 40)", () -> {
            for (long told : new long[] {1, 40, 101, 140, 501, 540}) {
                due("a book with " + told, booking(told).book(6, 2) > FAR ? 1 : 0, 1);
            }
            for (long told : new long[] {0, 41, 99, 100, 141, 500, 541, 600, 601, 640, -1, -60, -99, -100, -160,
                (1L << 32) + 1, (1L << 32) + 101, 1L << 40, MAX, Long.MAX_VALUE, Long.MIN_VALUE, Long.MIN_VALUE + 1,
                -(1L << 32) + 1}) {
                refused(FAR + BAD, () -> booking(told), "book(6, 2)");
            }
        });
        edge(50, "-10000002 fewer elements, none such", () -> {
            refused(FAR + BAD, Edge::lively, "book(7, 1)", "book(1, 4)", "book(2, 4)");
            runs(lively(), "book(1, 1) = -875000", "status(12) = 1");
            refused(FAR + BAD, () -> after(booking(3), "set(6, 0, 41)"), "book(6, 1)", "book(6, 2)");
        });
    }

    private static void bookRefusals() {
        edge(50, "-10000002 SHELF, n", () -> refused(FAR + BAD, Edge::lively, "book(-1, 0)", "book(8, 0)",
            "book(1, -1)", "book(1, 6)", "book(-2147483648, 1)", "book(2147483647, 1)", "book(1, -2147483648)",
            "book(1, 2147483647)"));
        edge(50, "-10000002 SHELF, n; -10000003", () -> refused(FAR + BAD, Edge::lively, "book(3, 6)",
            "book(3, -1)"));
        edge(50, "-10000003; -10000004", () -> refused(FAR + BAD, Edge::lively, "book(6, 6)", "book(6, -1)"));
        edge(50, "-10000003", () -> {
            refused(FAR + OTHER, Edge::lively, "book(3, 0)", "book(4, 5)");
            refused(FAR + OTHER, () -> after(weightless(), "show(7, 0)"), "book(7, 1)", "book(7, 0)");
        });
        edge(50, "-10000004", () -> {
            refused(FAR + NOTHING, Edge::lively, "book(6, 0)", "book(6, 5)");
            refused(FAR + NOTHING, Edge::weightless, "book(6, 0)", "book(6, 1)");
        });
        edge(50, "-10000005: WEIGHTS of ALLOWED ones are 0.", () -> {
            refused(FAR + STUCK, Edge::weightless, "book(0, 2)", "book(0, 0)");
            refused(FAR + STUCK, () -> after(weightless(), "weight(1, 5)", "allow(1, false)"), "book(0, 1)");
        });
        edge(50, "none such; -10000005", () -> {
            refused(FAR + BAD, Edge::weightless, "book(0, 3)", "book(8, 0)", "book(0, 6)", "book(-1, 6)");
            refused(FAR + BAD, () -> after(weightless(), "set(0, 1, 201)"), "book(0, 2)");
        });
    }
}
