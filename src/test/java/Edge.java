import java.util.TreeSet;
import java.util.Set;

/** What the tests of edges share: each quotes its sentence of the document, by the promise that it is seen by. */
abstract class Edge extends Trial {
    interface Body {
        void run();
    }

    private static final int BAD_COUNT = 12;
    private static final Set<String> refusals = new TreeSet<>();
    private static String document;
    private static int sentences = 0;

    static void open(String text) {
        document = text.replaceAll("\\s+", " ");
    }

    /** A test of its own; the sentence stands in the promise, or ahead of all promises. */
    static void edge(int number, String sentence, Body body) {
        promise(number);
        sentences++;
        int checked = checks[number];
        int failed = wrong;
        if (!section(number).contains(sentence) && !section(0).contains(sentence)) {
            fail("the document doesn't say so");
        }
        try {
            body.run();
        } catch (RuntimeException e) {
            fail("the test ended by " + e);
        }
        if (checks[number] == checked) {
            fail("nothing is checked");
        }
        if (wrong > failed) {
            System.out.println("  of the sentence: " + sentence);
        }
    }

    /** What the document says of a promise; of 0: all that stands ahead of them. */
    static String section(int number) {
        int from = number == 0 ? 0 : document.indexOf("## Promise " + number + ": ");
        int to = document.indexOf(number == PROMISES ? "## Not promised" : "## Promise " + (number + 1) + ": ");
        return document.substring(from, to);
    }

    static int sentences() {
        return sentences;
    }

    /** Whether a refused call of the promise is tested that answers the number. */
    static boolean isRefusalTested(int number, int refusal) {
        return refusals.contains(number + " " + refusal);
    }

    static void refused(int number, Making making, String... calls) {
        refusals.add(promise + " " + number);
        for (String call : calls) {
            refused(call, number, making, x -> ask(x, call));
        }
    }

    static void unchanged(int answer, Making making, String... calls) {
        for (String call : calls) {
            unchanged(call, answer, making, x -> ask(x, call));
        }
    }

    /** A text that is no school: its fault is told, it is counted as BAD, and all but the tape is as it was. */
    static void fault(Making making, String text, int place) {
        refusals.add(promise + " " + BAD);
        judge("school of '" + text + "'", -20 - place, BAD_COUNT, () -> after(making.make(), "wipe()"),
            x -> read(x, text));
    }

    /** A text that is a school: how many statements it has, and what can be seen after it. */
    static void school(UnexpectedBell x, String text, int statements, String... lines) {
        due("school of '" + text + "'", read(x, text), statements);
        runs(x, lines);
    }

    /**
     * Something of everything, some refusals of each number, and an image of other times. Allowed are 0, 1, 2, 3
     * and 5 of six mornings; weights are 3, 1, 1, 1, 1 and 2; said is 2; shelf 6 holds nothing.
     */
    static UnexpectedBell lively() {
        UnexpectedBell x = after(fresh(), "back()", "term(9)", "weight(8, 4)", "allow(0, false)", "person(5, 3)",
            "seed(99)", "ring()", "unsay(9)", "say()", "image()");
        after(x, "term(6)", "allow(4, false)", "weight(0, 3)", "weight(5, 2)", "unsay(2)", "seed(5)", "ring()",
            "person(0, 2)", "person(1, 1)", "person(2, 4)", "person(3, 1)");
        tell(x, 0, 2, 1, 3, 5, 4, 4, 4);
        tell(x, 1, 3, 101, 2, 540);
        tell(x, 2, 4, 1, 0, 1);
        after(x, "show(3, 2)", "show(4, 4)", "row(5, 0, 40)", "set(5, 0, 7)", "set(5, 39, -7)", "row(7, 2, 0)");
        after(x, "term(0)", "says(0, 0)", "says(1, 0)", "says(6, 0)", "says(6, 1)", "says(6, 2)");
        for (char letter : "said 7;never 1".toCharArray()) {
            x.feed(letter);
        }
        return x;
    }

    /** As many people as there can be. */
    static UnexpectedBell crowded() {
        return after(lively(), "person(4, 0)");
    }

    /** Two mornings, allowed, whose weights are 0, and a row of wagers and mornings that fit. */
    static UnexpectedBell weightless() {
        UnexpectedBell x = after(fresh(), "term(2)", "weight(0, 0)", "weight(1, 0)", "person(0, 1)");
        tell(x, 0, 2, 1, 101);
        return x;
    }

    /** No morning is allowed. */
    static UnexpectedBell closed() {
        return after(fresh(), "hint(0)", "person(0, 0)", "person(5, 0)");
    }
}
