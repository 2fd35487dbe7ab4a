/** The edges of what would come of it: promises 32, 35 to 38, 43, 44, 51 and 52. */
final class WhatIfEdges extends Edge {
    private WhatIfEdges() {
    }

    static void all() {
        bests();
        bestsByBets();
        bestRefusals();
        wills();
        spoiling();
        spoilers();
        deeper();
        deeperByKinds();
        crowds();
        levels();
        seconds();
        hints();
        hintTies();
    }

    private static void bests() {
        edge(32, "BEST for t (1 to 6)", () -> runs(fresh(), "best(1, -1) = 0", "best(1, 4) = 1", "best(6, -1) = 0",
            "best(6, 4) = 6", "best(6, 0) = 0", "best(0, -1) = -2", "best(7, -1) = -2"));
        edge(32, "of several the first (MORNING by MORNING)", () -> {
            runs(after(fresh(), "term(3)", "person(0, 0)"), "best(3, -1) = 0", "best(3, 0) = 0", "best(3, 1) = 3",
                "best(3, 2) = 0");
            runs(after(fresh(), "term(2)", "person(0, 0)", "person(0, 1)"), "best(4, -1) = 4", "best(4, 0) = 0",
                "best(4, 1) = 4");
            // The only row that is caught nowhere is the last of all.
            runs(after(fresh(), "term(4)", "unsay(2)", "person(0, 0)", "person(0, 1)", "person(0, 2)"),
                "best(3, -1) = 0", "best(3, 0) = 3", "best(3, 1) = 0", "best(3, 2) = 0", "best(3, 3) = 0",
                "best(6, 0) = 6");
            runs(after(fresh(), "term(9)", "unsay(8)", "person(0, 0)", "person(0, 1)", "person(0, 2)",
                "person(0, 4)", "person(0, 5)", "person(0, 6)"), "best(6, 5) = 6", "allow(5, false) = 1",
                "best(6, 4) = 6", "allow(4, false) = 1", "best(6, 3) = 6", "best(6, -1) = 0");
        });
        edge(32, "(of all MORNINGS; 0 of those not ALLOWED)", () -> {
            runs(after(fresh(), "allow(4, false)"), "best(6, 4) = 0", "best(6, 3) = 6");
            runs(after(fresh(), "term(9)", "hint(1)", "weight(8, 9)"), "best(6, 8) = 0", "best(6, 0) = 6",
                "best(6, -1) = 0");
            runs(after(fresh(), "term(1)", "unsay(0)", "person(0, 0)"), "best(6, -1) = 6", "best(6, 0) = 6");
        });
        edge(32, "the WEIGHTS of ALLOWED ones not BY SURPRISE (m NONE)", () -> {
            runs(after(fresh(), "term(2)", "weight(0, 9)", "weight(1, 9)", "person(0, 0)"), "best(2, -1) = 0",
                "best(2, 0) = 2", "best(2, 1) = 0", "caught() = 500000");
            runs(after(fresh(), "term(2)", "weight(0, 0)", "weight(1, 0)", "person(2, 0)"), "best(2, -1) = 2");
        });
    }

    private static void bestsByBets() {
        edge(32, "(as they'd be expected then) are least together", () -> {
            UnexpectedBell x = after(fresh(), "term(2)", "person(2, 5)");
            // Rows 0 6, 1 5 and 2 4 catch the last morning alone; from 3 3 on both are caught.
            runs(x, "best(6, -1) = 4", "best(6, 0) = 2", "best(6, 1) = 4", "best(1, -1) = 1", "best(1, 0) = 0",
                "best(1, 1) = 1", "best(3, -1) = 2", "best(3, 0) = 1");
            runs(after(fresh(), "term(9)", "person(2, 9)"), "best(6, -1) = 1", "best(6, 8) = 1", "best(6, 7) = 5",
                "best(6, 6) = 0", "best(6, 0) = 0");
        });
        edge(32, "(in thought; nothing is changed)", () -> {
            unchanged(0, () -> after(fresh(), "term(9)", "weight(3, 7)", "image()"), "best(6, 0)", "best(6, -1)");
            unchanged(0, () -> after(lively(), "allow(1, false)"), "best(1, 1)", "best(6, 4)");
        });
    }

    private static void bestRefusals() {
        edge(32, "BAD", () -> refused(BAD, Edge::lively, "best(0, -1)", "best(7, -1)", "best(-1, 0)", "best(1, -2)",
            "best(1, 6)", "best(1, 8)", "best(-2147483648, -1)", "best(2147483647, -1)", "best(1, -2147483648)",
            "best(1, 2147483647)", "best(7, 6)"));
        edge(32, "STUCK: none is ALLOWED.", () -> {
            refused(STUCK, Edge::closed, "best(1, -1)", "best(6, 0)", "best(6, 4)");
            runs(after(closed(), "allow(0, true)"), "best(1, -1) = 1");
        });
        edge(32, "BAD; STUCK", () -> refused(BAD, Edge::closed, "best(0, -1)", "best(7, 0)", "best(1, 5)",
            "best(1, -2)"));
    }

    private static void wills() {
        edge(35, "WILL; NONE.", () -> {
            runs(after(fresh(), "term(1)", "person(0, 9)"), "will() = 0");
            runs(after(fresh(), "term(9)", "person(2, 0)", "person(0, 9)", "weight(0, 0)"), "will() = 8",
                "learn(1, 8) = 9", "will() = 8", "learn(1, 7) = 8", "will() = -1");
            runs(after(fresh(), "term(2)", "unsay(9)", "person(0, 0)", "person(0, 9)"), "will() = 1",
                "status(2) = 9");
        });
        edge(35, "by which no MORNING is BY SURPRISE", () -> runs(after(closed(), "unsay(4)"), "will() = 0",
            "status(2) = 4", "allow(2, true) = 1", "will() = 0", "leave() = 1", "leave() = 0", "will() = -1",
            "allow(2, false) = 1", "will() = 0"));
        edge(35, "NONE", () -> {
            unchanged(NONE, Trial::fresh, "will()");
            unchanged(NONE, () -> after(lively(), "weight(0, 0)"), "will()");
            unchanged(3, Edge::lively, "will()");
        });
    }

    private static void spoiling() {
        edge(36, "(it may be below 0)", () -> {
            UnexpectedBell x = after(fresh(), "term(2)", "unsay(5)", "person(0, 0)", "person(3, 4)", "person(4, 0)");
            runs(x, "spoils(0) = 1", "spoils(1) = -1", "spoils(2) = 0", "status(1) = 3", "spoils(1) = -1");
        });
        edge(36, "SPOILS: by how many more MORNINGS", () -> {
            runs(after(fresh(), "term(9)", "person(2, 0)"), "spoils(0) = 9", "hint(0) = 0", "spoils(0) = 0");
            runs(after(lively(), "weight(0, 9)"), "spoils(0) = 1", "spoils(1) = 0", "spoils(4) = 0");
        });
        edge(36, "-10000002.", () -> {
            refused(FAR + BAD, Edge::lively, "spoils(-1)", "spoils(5)", "spoils(-2147483648)",
                "spoils(2147483647)");
            refused(FAR + BAD, Trial::fresh, "spoils(0)");
            refused(FAR + BAD, Edge::crowded, "spoils(6)");
        });
        edge(36, "nothing is changed", () -> {
            unchanged(0, Edge::lively, "spoils(1)");
            unchanged(0, Edge::crowded, "spoils(5)");
        });
    }

    private static void spoilers() {
        edge(37, "the one by most, of several the first", () -> {
            runs(after(fresh(), "person(0, 1)", "person(0, 1)", "person(0, 0)"), "spoiler() = 2");
            runs(after(fresh(), "person(0, 1)", "person(0, 0)"), "spoiler() = 0");
            runs(after(fresh(), "person(0, 1)", "person(0, 1)"), "spoiler() = 0", "hint(0) = 0", "spoiler() = 0");
            runs(after(fresh(), "term(2)", "unsay(5)", "person(3, 4)", "person(4, 0)", "person(4, 0)"),
                "spoils(0) = -1", "spoils(1) = 0", "spoiler() = 1");
        });
        edge(37, "STUCK: no PEOPLE.", () -> {
            refused(STUCK, Trial::fresh, "spoiler()");
            refused(STUCK, () -> after(fresh(), "person(0, 0)", "leave()"), "spoiler()");
        });
    }

    private static void deeper() {
        edge(38, "the least a (0 to 9) by which somebody would EXPECT it on a MORNING", () -> {
            runs(lively(), "deeper(1, 5) = 0", "deeper(1, 3) = 1", "deeper(1, 2) = 2", "deeper(1, 1) = -1",
                "personOf(1, 1) = 2");
            runs(after(fresh(), "term(9)", "unsay(9)", "person(0, 0)"), "deeper(0, 8) = 0", "deeper(0, 0) = 8",
                "unsay(8) = 9", "deeper(0, 0) = 8", "unsay(7) = 8", "deeper(0, 0) = -1", "deeper(0, 1) = 7");
        });
        edge(38, "(NONE isn't refused.)", () -> {
            unchanged(NONE, Edge::lively, "deeper(1, 0)", "deeper(1, 4)", "deeper(2, 3)", "deeper(4, 5)");
            unchanged(NONE, Edge::closed, "deeper(0, 0)", "deeper(1, 4)");
        });
        edge(38, "BAD.", () -> {
            refused(BAD, Edge::lively, "deeper(-1, 0)", "deeper(5, 0)", "deeper(0, -1)", "deeper(0, 6)",
                "deeper(-2147483648, 0)", "deeper(2147483647, 0)", "deeper(0, -2147483648)",
                "deeper(0, 2147483647)", "deeper(5, 6)");
            refused(BAD, Trial::fresh, "deeper(0, 0)");
        });
    }

    private static void deeperByKinds() {
        edge(38, "(others as they are)", () -> {
            // By 2 and by 3 the sleeper would sleep on 4; by 4 as deep, they are awake.
            runs(after(fresh(), "term(7)", "unsay(2)", "person(1, 0)", "person(3, 0)"), "deeper(0, 4) = 4",
                "deeper(0, 6) = -1", "deeper(1, 5) = 0", "deeper(1, 6) = -1");
            runs(after(fresh(), "person(2, 9)", "weight(0, 0)"), "deeper(0, 4) = 0", "deeper(0, 1) = 0",
                "deeper(0, 0) = -1");
            runs(after(fresh(), "unsay(4)", "person(4, 9)", "person(0, 2)"), "deeper(0, 1) = 0",
                "deeper(0, 2) = -1", "deeper(1, 0) = 4");
        });
    }

    private static void crowds() {
        edge(43, "MORNINGS (bits) BY SURPRISE, if all PEOPLE were of a KIND (with their a).", () -> {
            runs(lively(), "crowd(0) = 35", "crowd(1) = 43", "crowd(2) = 0", "crowd(3) = 41", "crowd(4) = 15",
                "crowd(5) = 0", "personOf(0, 0) = 5", "personOf(4, 0) = 3");
            runs(fresh(), "crowd(0) = 31", "crowd(5) = 31", "hint(0) = 0", "crowd(2) = 0");
            runs(after(fresh(), "person(0, 9)"), "crowd(4) = 15", "crowd(0) = 23");
            runs(crowded(), "crowd(0) = 3", "crowd(1) = 11", "crowd(2) = 0", "crowd(3) = 33", "crowd(4) = 15",
                "crowd(5) = 0", "personOf(5, 0) = 4");
        });
        edge(43, "BAD.", () -> {
            refused(BAD, Edge::lively, "crowd(-1)", "crowd(6)", "crowd(-2147483648)", "crowd(2147483647)");
            refused(BAD, Trial::fresh, "crowd(6)");
        });
        edge(43, "nothing is changed", () -> unchanged(35, Edge::lively, "crowd(0)"));
    }

    private static void levels() {
        edge(44, "The least SAID (0 to 9) by which a MORNING isn't BY SURPRISE; NONE.", () -> {
            runs(after(fresh(), "term(9)", "unsay(3)", "person(0, 9)"), "level(8) = 0", "level(7) = 1",
                "level(0) = 8", "status(2) = 3", "learn(0, 7) = 9", "level(0) = -1", "level(1) = 7");
            runs(after(fresh(), "unsay(9)", "person(2, 2)"), "level(4) = 0", "level(1) = 0");
            runs(after(fresh(), "person(0, 0)", "person(0, 0)", "person(0, 0)", "person(0, 0)", "person(0, 0)",
                "person(0, 4)"), "level(0) = 4", "level(1) = 3", "spoils(5) = 1", "spoiler() = 5");
        });
        edge(44, "a MORNING isn't BY SURPRISE", () -> runs(after(fresh(), "allow(1, false)"), "level(1) = 0",
            "level(0) = -1"));
        edge(44, "(NONE isn't refused.)", () -> {
            unchanged(NONE, () -> after(lively(), "weight(0, 0)"), "level(0)");
            unchanged(3, Edge::lively, "level(1)");
            unchanged(NONE, Trial::fresh, "level(0)", "level(4)");
        });
        edge(44, "BAD.", () -> refused(BAD, Edge::lively, "level(-1)", "level(6)", "level(8)", "level(-2147483648)",
            "level(2147483647)"));
    }

    private static void seconds() {
        edge(51, "which rings g MORNINGS (0 to 8) behind the first", () -> {
            runs(after(fresh(), "term(9)"), "second(8, 8) = 510", "second(8, 0) = 0", "second(7, 8) = 511",
                "second(0, 0) = 510", "second(0, 8) = 511", "second(8, 1) = 256", "second(8, 9) = -2",
                "second(8, -1) = -2");
        });
        edge(51, "hasn't rung until then (m, too)", () -> runs(lively(), "second(3, 0) = 32", "second(2, 0) = 40",
            "second(5, 0) = 0", "second(0, 0) = 46"));
        edge(51, "ALLOWED ones above m less g", () -> runs(lively(), "second(3, 2) = 44", "second(0, 1) = 47",
            "second(5, 5) = 46", "second(5, 6) = 47", "second(4, 1) = 32", "hint(0) = 0", "second(0, 8) = 0"));
        edge(51, "BAD.", () -> refused(BAD, Edge::lively, "second(-1, 0)", "second(6, 0)", "second(0, -1)",
            "second(0, 9)", "second(-2147483648, 0)", "second(2147483647, 0)", "second(0, -2147483648)",
            "second(0, 2147483647)", "second(6, 9)"));
    }

    private static void hints() {
        edge(52, "of all sets of ALLOWED MORNINGS, told as all that is ALLOWED still", () -> {
            runs(after(fresh(), "term(9)"), "hints(0) = 511", "hints(1) = 9", "hint(170) = 4", "hints(0) = 170",
                "hints(1) = 4", "status(3) = 170");
            runs(after(fresh(), "term(1)"), "hints(0) = 1", "hints(1) = 1");
            runs(after(fresh(), "term(3)", "unsay(0)", "person(0, 0)"), "hints(0) = 7", "hints(1) = 2");
            // Without 5, one of two sleepers sleeps on 4 and the other on 3: more surprise than of all.
            runs(after(fresh(), "term(6)", "person(1, 0)", "person(1, 1)"), "surprises() = 15", "hints(0) = 31",
                "hints(1) = 5");
        });
        edge(52, "the set (what 0, bits), how many are BY SURPRISE then (1)", () -> {
            unchanged(0, Edge::closed, "hints(0)", "hints(1)");
            unchanged(0, () -> after(lively(), "person(2, 0)"), "hints(0)", "hints(1)");
        });
        edge(52, "BAD.", () -> {
            refused(BAD, Edge::lively, "hints(-1)", "hints(2)", "hints(-2147483648)", "hints(2147483647)");
            refused(BAD, Edge::closed, "hints(2)");
        });
    }

    private static void hintTies() {
        edge(52, "of several that of the fewest MORNINGS", () -> {
            // A morning without a weight is no bet: it alone surprises, as it does among others.
            runs(after(fresh(), "term(3)", "weight(2, 0)", "person(2, 0)"), "hints(0) = 4", "hints(1) = 1");
            runs(after(fresh(), "term(4)", "unsay(0)", "weight(0, 0)", "weight(1, 0)", "person(2, 0)"),
                "hints(0) = 3", "hints(1) = 2");
        });
        edge(52, "of several the least as bits", () -> {
            // On the first of two that weigh 1 and 2 a bettor of 5 doesn't bet: 0 and 1, or 0 and 2.
            runs(after(fresh(), "term(3)", "weight(1, 2)", "weight(2, 2)", "person(2, 5)"), "hints(0) = 3",
                "hints(1) = 1");
            runs(after(fresh(), "term(9)", "person(2, 0)", "weight(3, 0)", "weight(7, 0)", "allow(3, false)"),
                "hints(0) = 128", "hints(1) = 1");
        });
    }
}
