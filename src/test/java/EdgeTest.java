import java.nio.file.Files;
import java.nio.file.Path;
import java.util.regex.Pattern;

/**
 * A test for each sentence of the document that names a boundary case, promise by promise; and whether each
 * promise has some, and each refusal that a promise names is answered in one.
 */
public final class EdgeTest extends Edge {
    public static void main(String[] args) throws Exception {
        open(Files.readString(Path.of(args[1])));
        ShelfEdges.all();
        SchoolEdges.all();
        TextEdges.all();
        ThoughtEdges.all();
        LotEdges.all();
        WhatIfEdges.all();
        ToldEdges.all();
        TruthEdges.all();
        for (int number = 1; number <= PROMISES; number++) {
            judgeWhole(number);
        }
        close(sentences() + " sentences hold at their edges");
    }

    private static void judgeWhole(int number) {
        promise(number);
        if (checks[number] == 0) {
            fail("no sentence of it is tested");
        }
        String[] names = {"BAD|-10000002", "OTHER|-10000003", "NOTHING|-10000004", "STUCK|-10000005", "FULL"};
        for (int i = 0; i < names.length; i++) {
            // A refusal is told behind a stop, a semicolon or a colon; else the word is spoken of.
            boolean isNamed = Pattern.compile("[.;:] (" + names[i] + ")\\b").matcher(section(number)).find();
            int refusal = BAD - i;
            boolean isTested = isRefusalTested(number, refusal) || isRefusalTested(number, FAR + refusal);
            if (isNamed != isTested) {
                fail("refusal " + refusal + (isNamed ? " is told, but not tested" : " is tested, but not told"));
            }
        }
    }
}
