/** Each promise by its number: ordinary inputs, the edges that the document names, and wrong inputs. */
public final class PromiseTest extends Trial {
    public static void main(String[] args) {
        aNewObject();
        rows();
        shelves();
        terms();
        texts();
        faults();
        views();
        thoughts();
        depths();
        lots();
        bests();
        whatIfs();
        toldRows();
        truth();
        images();
        states();
        for (int i = 1; i <= PROMISES; i++) {
            if (checks[i] == 0) {
                promise(i);
                fail("no test");
            }
        }
        close("every promise holds");
    }

    /** Something of everything: six mornings (one not allowed), three people, shelves 0 to 3, a tape. */
    private static UnexpectedBell rich() {
        UnexpectedBell x = made("term 6; never 4; weight 0 3; weight 5 2; said 2;"
            + "person 0 2; person 1 1; person 2 4");
        x.image();
        tell(x, 0, 2, 1, 3, 5, 4, 4, 4);
        tell(x, 1, 3, 101, 2, 540);
        tell(x, 2, 4, 1, 0, 1);
        x.show(3, 1);
        x.feed('t');
        return x;
    }

    /** No weights at all. */
    private static UnexpectedBell weightless() {
        UnexpectedBell x = made("term 2; weight 0 0; weight 1 0; person 0 1");
        tell(x, 0, 2, 1, 101);
        return x;
    }

    private static void aNewObject() {
        promise(1);
        UnexpectedBell x = fresh();
        due("NONE", UnexpectedBell.NONE, -1);
        int[] status = {5, 0, 1, 31, 5, 0, 0, 0, 0, 1, 0, 31, 0, 0, 0, 0, 0, -1};
        for (int what = 0; what < status.length; what++) {
            due("status(" + what + ")", x.status(what), status[what]);
        }
        for (int m = 0; m < 5; m++) {
            due("allowed", x.morningOf(m, 0), 1);
            due("weight", x.morningOf(m, 1), 1);
        }
        for (int s = 0; s < 8; s++) {
            due("holds", x.holds(s), -1);
        }
        due("wipe", x.wipe(), 0);
        due("back", x.back(), -5);
    }

    private static void rows() {
        promise(2);
        UnexpectedBell x = fresh();
        for (int sort = 0; sort < 5; sort++) {
            due("row", x.row(sort, sort, 40), 1);
            due("holds", x.holds(sort), sort);
            due("set", x.set(sort, 39, 1), 1);
            due("set behind", x.set(sort, 40, 1), -2);
        }
        due("row of none", x.row(7, 0, 0), 1);
        due("holds", x.holds(7), 0);
        due("set", x.set(7, 0, 1), -2);
        due("row again", x.row(4, 4, 3), 1);
        due("row again, larger", x.row(4, 3, 40), 1);
        due("old element", x.element(4, 39), 0);
        due("over somebody", x.person(0, 0) + x.show(4, 0) + x.row(4, 1, 1), 2);
        due("holds", x.holds(4), 1);
        refused("row(8)", -2, PromiseTest::rich, y -> y.row(8, 0, 1));
        refused("row(-1)", -2, PromiseTest::rich, y -> y.row(-1, 0, 1));
        refused("row sort 5", -2, PromiseTest::rich, y -> y.row(0, 5, 1));
        refused("row sort -1", -2, PromiseTest::rich, y -> y.row(0, -1, 1));
        refused("row of 41", -2, PromiseTest::rich, y -> y.row(0, 0, 41));
        refused("row of -1", -2, PromiseTest::rich, y -> y.row(0, 0, -1));
        promise(3);
        long v = 0x1234_5678_9abc_def0L;
        long[] kept = {(byte) v, (short) v, (int) v, v, 1};
        for (int sort = 0; sort < 5; sort++) {
            x.row(sort, sort, 2);
            due("set", x.set(sort, 1, v), 1);
            due("kept", x.element(sort, 1), kept[sort]);
            due("its neighbour", x.element(sort, 0), 0);
            x.set(sort, 1, 256);
            due("256 kept", x.element(sort, 1), sort == 0 ? 0 : sort == 4 ? 1 : 256);
            x.set(sort, 1, 0);
            due("0 kept", x.element(sort, 1), 0);
        }
        refused("set(8)", -2, PromiseTest::rich, y -> y.set(8, 0, 1));
        refused("set somebody", -3, PromiseTest::rich, y -> y.set(3, 99, 1));
        refused("set nothing", -4, PromiseTest::rich, y -> y.set(4, 99, 1));
        refused("set place 6", -2, PromiseTest::rich, y -> y.set(0, 6, 1));
        refused("set place -1", -2, PromiseTest::rich, y -> y.set(0, -1, 1));
        copies();
        promise(5);
        x = rich();
        due("element", x.element(0, 2), 5);
        due("a boolean", x.element(2, 2), 1);
        unchanged("no element", 0, PromiseTest::rich, y -> y.element(0, 6));
        unchanged("element -1", 0, PromiseTest::rich, y -> y.element(0, MIN));
        unchanged("element of somebody", 0, PromiseTest::rich, y -> y.element(3, 0));
        unchanged("element of nothing", 0, PromiseTest::rich, y -> y.element(4, 0));
        unchanged("element of no shelf", 0, PromiseTest::rich, y -> y.element(8, 0) + y.element(-1, 0));
    }

    private static void copies() {
        promise(4);
        UnexpectedBell x = rich();
        due("onto itself", x.copy(0, 0, 0, 1, 5), 5);
        due("as they were", x.element(0, 1) * 1000 + x.element(0, 2) * 100 + x.element(0, 5), 1304);
        due("and back", x.copy(0, 0, 1, 0, 5), 5);
        due("as they were", x.element(0, 0) * 1000 + x.element(0, 1) * 100 + x.element(0, 2), 1305);
        tell(x, 4, 2, 7, 8);
        due("to another", x.copy(0, 4, 2, 1, 1), 1);
        due("there", x.element(4, 0) * 10 + x.element(4, 1), 75);
        due("none at the end", x.copy(0, 4, 6, 2, 0), 0);
        refused("copy(8)", -2, PromiseTest::rich, y -> y.copy(8, 3, 0, 0, 1));
        refused("copy to 8", -2, PromiseTest::rich, y -> y.copy(3, 8, 0, 0, 1));
        refused("from somebody to nothing", -3, PromiseTest::rich, y -> y.copy(3, 4, 0, 0, 1));
        refused("from nothing to somebody", -3, PromiseTest::rich, y -> y.copy(4, 3, 0, 0, 1));
        refused("two sorts", -3, PromiseTest::rich, y -> y.copy(0, 1, 99, 0, 1));
        refused("from nothing", -4, PromiseTest::rich, y -> y.copy(4, 0, 99, 0, 1));
        refused("to nothing", -4, PromiseTest::rich, y -> y.copy(0, 4, 99, 0, 1));
        refused("i below 0", -2, PromiseTest::rich, y -> y.copy(0, 0, -1, 0, 1));
        refused("j below 0", -2, PromiseTest::rich, y -> y.copy(0, 0, 0, -1, 1));
        refused("n below 0", -2, PromiseTest::rich, y -> y.copy(0, 0, 1, 1, -1));
        refused("too many from there", -2, PromiseTest::rich, y -> y.copy(0, 0, 1, 0, 6));
        refused("too many to there", -2, PromiseTest::rich, y -> y.copy(0, 0, 0, 1, 6));
        refused("none, but behind the end", -2, PromiseTest::rich, y -> y.copy(0, 0, 7, 0, 0));
        refused("far too many", -2, PromiseTest::rich, y -> y.copy(0, 0, MAX, MAX, MAX));
    }

    private static void shelves() {
        promise(6);
        UnexpectedBell x = rich();
        due("a row of ints", x.holds(0), 2);
        due("a row of booleans", x.holds(2), 4);
        due("somebody", x.holds(3), 11);
        due("nothing", x.holds(7), -1);
        unchanged("no shelf", -1, PromiseTest::rich, y -> Math.max(y.holds(8), y.holds(-1)));
        promise(7);
        due("show", x.show(0, 2), 1);
        due("held", x.holds(0), 12);
        due("its row is gone", x.element(0, 0), 0);
        due("show nothing", x.show(0, -1), 1);
        due("held", x.holds(0), -1);
        refused("show(8)", -2, PromiseTest::rich, y -> y.show(8, 0));
        refused("nobody", -2, PromiseTest::rich, y -> y.show(0, 3));
        refused("nobody below", -2, PromiseTest::rich, y -> y.show(0, -2));
        says();
    }

    private static void says() {
        promise(8);
        UnexpectedBell x = made("term 6; never 4; weight 0 3; weight 5 2; said 2;"
            + "person 0 2; person 1 1; person 2 4; person 3 1; person 4 0; person 5 9");
        // By kind taken for: as pupil, sleeper, bettor, usher, wise, sure.
        int[][] says = {
            {2, -3, -3, -3, -3, -3},
            {-1, 2, -3, -3, -3, -3},
            {5, -3, 1, -3, -3, -3},
            {2, 2, -3, 2, -3, -3},
            {2, -3, -3, -3, 2, -3},
            {2, -3, 2, -3, -3, 1},
        };
        for (int one = 0; one < 6; one++) {
            x.show(0, one);
            for (int kind = 0; kind < 6; kind++) {
                due(one + " says as " + kind, x.says(0, kind), says[one][kind]);
            }
        }
        x.hint(0);
        due("sure, none allowed", x.says(0, 5), 0);
        x = made("term 5; person 1 3");
        x.show(0, 0);
        due("asleep on all mornings, allowed or not", x.hint(0) + x.says(0, 1), 3);
        due("NONE", x.says(0, 0), -1);
        due("isn't refused", x.status(12) + x.status(13) + x.status(14), 0);
        refused("says(8)", -2, PromiseTest::rich, y -> y.says(8, 0));
        refused("kind 6", -2, PromiseTest::rich, y -> y.says(4, 6));
        refused("kind -1", -2, PromiseTest::rich, y -> y.says(0, -1));
        refused("a row", -3, PromiseTest::rich, y -> y.says(0, 0));
        refused("no such kind", -3, PromiseTest::rich, y -> y.says(3, 2));
        refused("the kind under it", -3, PromiseTest::rich, y -> y.says(3, 3));
        refused("nothing", -4, PromiseTest::rich, y -> y.says(4, 0));
    }

    private static void terms() {
        promise(9);
        UnexpectedBell x = rich();
        due("term", x.term(9), 6);
        due("all allowed", x.status(3), 511);
        due("all weights", x.status(4), 9);
        due("said as it was", x.status(2), 2);
        due("people as they were", x.status(1), 3);
        due("term", x.term(1), 9);
        due("again", x.term(1), 1);
        refused("term(0)", -2, PromiseTest::rich, y -> y.term(0));
        refused("term(10)", -2, PromiseTest::rich, y -> y.term(10));
        promise(10);
        x = fresh();
        for (int kind = 0; kind < 6; kind++) {
            due("person", x.person(kind, kind + 4), kind);
            due("kind", x.personOf(kind, 0), kind);
            due("a", x.personOf(kind, 1), kind + 4);
        }
        due("full", x.person(0, 0), -6);
        due("bad ahead of full", x.person(6, 0), -2);
        due("counted", x.status(16) * 10 + x.status(12), 11);
        refused("kind 6", -2, PromiseTest::rich, y -> y.person(6, 0));
        refused("kind -1", -2, PromiseTest::rich, y -> y.person(-1, 0));
        refused("a 10", -2, PromiseTest::rich, y -> y.person(0, 10));
        refused("a -1", -2, PromiseTest::rich, y -> y.person(0, -1));
        promise(11);
        x = fresh();
        due("was so", x.allow(4, true), 0);
        due("not", x.allow(4, false), 1);
        due("allowed", x.status(3), 15);
        due("was not", x.allow(4, false), 0);
        due("again", x.allow(4, true), 1);
        due("allowed", x.status(3), 31);
        refused("allow(5)", -2, PromiseTest::fresh, y -> y.allow(5, true));
        refused("allow(-1)", -2, PromiseTest::fresh, y -> y.allow(-1, false));
        promise(12);
        due("weight", x.weight(4, 9), 1);
        due("weight", x.weight(4, 0), 9);
        due("weight", x.morningOf(4, 1), 0);
        due("of one not allowed", x.allow(3, false) + x.weight(3, 7) + x.morningOf(3, 1), 9);
        refused("weight(5)", -2, PromiseTest::fresh, y -> y.weight(5, 1));
        refused("weight 10", -2, PromiseTest::fresh, y -> y.weight(0, 10));
        refused("weight -1", -2, PromiseTest::fresh, y -> y.weight(0, -1));
        saidAndHinted();
    }

    private static void saidAndHinted() {
        promise(13);
        UnexpectedBell x = fresh();
        for (int said = 2; said <= 9; said++) {
            due("say", x.say(), said);
        }
        refused("said 9 times", -6, () -> made("said 9"), y -> y.say());
        promise(14);
        due("unsay", x.unsay(0), 9);
        due("unsay", x.unsay(9), 0);
        due("said", x.status(2), 9);
        refused("unsay(10)", -2, PromiseTest::rich, y -> y.unsay(10));
        refused("unsay(-1)", -2, PromiseTest::rich, y -> y.unsay(-1));
        promise(15);
        x = fresh();
        due("hint", x.hint(0b01011), 3);
        due("those not allowed stay so", x.hint(0b11010), 2);
        due("allowed", x.status(3), 0b01010);
        due("none", x.hint(0), 0);
        refused("hint(32)", -2, PromiseTest::fresh, y -> y.hint(32));
        refused("hint(63)", -2, PromiseTest::fresh, y -> y.hint(63));
        refused("hint(-1)", -2, PromiseTest::fresh, y -> y.hint(-1));
    }

    private static void texts() {
        promise(16);
        UnexpectedBell x = fresh();
        for (int i = 0; i < 250; i++) {
            due("feed", x.feed(i == 0 ? 0 : 255), i + 1);
        }
        due("full", x.feed(0), -6);
        due("bad ahead of full", x.feed(256), -2);
        due("size", x.status(8), 250);
        refused("feed(-1)", -2, PromiseTest::rich, y -> y.feed(-1));
        refused("feed(256)", -2, PromiseTest::rich, y -> y.feed(256));
        promise(17);
        due("wipe", x.wipe(), 250);
        due("wipe", x.wipe(), 0);
        due("feed", x.feed(32), 1);
        promise(18);
        x = fresh();
        due("school", read(x, " term9;never 3 ; weight8 9;said 0;person 5 9;person0 0;hint 1 2  3 08 "), 7);
        due("tape", x.status(8), 0);
        due("mornings", x.status(0), 9);
        due("allowed", x.status(3), 0b100000110);
        due("weight", x.morningOf(8, 1), 9);
        due("said", x.status(2), 0);
        due("people", x.status(1), 2);
        due("kind", x.personOf(0, 0), 5);
        due("a", x.personOf(0, 1), 9);
        due("nothing refused", x.status(12), 0);
        due("people come to those there are", read(x, "person 2 3"), 1);
        due("people", x.status(1), 3);
        due("term lets all be as at first", read(x, "weight 8 2;never 1;term 9"), 3);
        due("allowed, weights", x.status(3) * 10 + x.status(4), 5119);
        due("hint of all", read(x, "hint 8 7 6 5 4 3 2 1 0"), 1);
        due("allowed", x.status(3), 511);
        due("never twice", read(x, "never 1;never 1"), 2);
        due("as long as can be", read(x, "said 1;said 02"), 2);
        due("said", x.status(2), 2);
    }

    private static void fault(String text, int place) {
        judge("school of '" + text + "'", -20 - place, 12, () -> after(rich(), "wipe()"), x -> read(x, text));
    }

    private static void faults() {
        promise(18);
        fault("", 0);
        fault("   ", 3);
        fault("term", 4);
        fault("term ", 5);
        fault("term 5;", 7);
        fault("term 5; ", 8);
        fault(";term 5", 0);
        fault("term 5;;said 1", 7);
        fault("term 0", 5);
        fault("term 10", 5);
        fault("term 005", 5);
        fault("term 5 5", 7);
        fault("term 5 said 1", 7);
        fault("term said", 5);
        fault("terms 5", 0);
        fault("ter 5", 0);
        fault("5", 0);
        fault("Term 5", 0);
        fault("term\t5", 4);
        fault("said 1,", 6);
        fault("said 1 A", 7);
        fault("said 1;said" + (char) 233, 11);
        fault("said 10", 5);
        fault("never 6", 6);
        fault("term 3;never 3", 13);
        fault("weight 6 1", 7);
        fault("weight 1 10", 9);
        fault("weight 1", 8);
        fault("weight 1;", 8);
        fault("person 6 0", 7);
        fault("person 0 10", 9);
        fault("person 0", 8);
        fault("hint", 4);
        fault("hint ;", 5);
        fault("hint 6", 5);
        fault("hint 1 1", 7);
        fault("hint 0 1 2 3 4 5 0", 17);
        fault("hint 0 1 2 3 4 5 6", 17);
        fault("hint 1 001", 7);
        fault("hint 1 perhaps 2", 7);
        fault("person 0 0;person 0 0;person 0 0; person 0 0;", 34);
        fault("person 0 0;person 0 0;person 0 0;person", 33);
        fault("person 0 0;person 0 0;person 0 0;person 9 0", 33);
    }

    private static void views() {
        promise(19);
        UnexpectedBell x = rich();
        int[][] people = {{0, 2, 2, 4}, {1, 1, 1, 0}, {2, 4, 2, 32}};
        for (int one = 0; one < 3; one++) {
            for (int what = 0; what < 4; what++) {
                due("personOf(" + one + ", " + what + ")", x.personOf(one, what), people[one][what]);
            }
        }
        refused("nobody", -2, PromiseTest::rich, y -> y.personOf(3, 0));
        refused("nobody below", -2, PromiseTest::rich, y -> y.personOf(-1, 0));
        refused("what 4", -2, PromiseTest::rich, y -> y.personOf(0, 4));
        refused("what -1", -2, PromiseTest::rich, y -> y.personOf(0, -1));
        promise(20);
        int[][] mornings = {{1, 3, 47, 8}, {1, 1, 46, 5}, {1, 1, 44, 4}, {1, 1, 40, 3}, {0, 1, 32, 2}, {1, 2, 32, 2}};
        for (int m = 0; m < 6; m++) {
            for (int what = 0; what < 4; what++) {
                due("morningOf(" + m + ", " + what + ")", x.morningOf(m, what), mornings[m][what]);
            }
        }
        refused("no morning", -2, PromiseTest::rich, y -> y.morningOf(6, 0));
        refused("morning -1", -2, PromiseTest::rich, y -> y.morningOf(-1, 0));
        refused("what 4", -2, PromiseTest::rich, y -> y.morningOf(0, 4));
        refused("what -1", -2, PromiseTest::rich, y -> y.morningOf(0, -1));
        promise(42);
        x = made("term 9; person 1 0; person 3 1; person 1 2; person 0 0; person 2 0; person 5 0");
        int[] asleep = {7, 0, 1, 2, 5, 0, 3, 0, 5};
        for (int m = 0; m < 9; m++) {
            due("asleep(" + m + ")", x.asleep(m), asleep[m]);
        }
        due("by a modulo 3", x.learn(0, 5) + x.asleep(4), 5);
        refused("asleep(6)", -2, PromiseTest::rich, y -> y.asleep(6));
        refused("asleep(-1)", -2, PromiseTest::rich, y -> y.asleep(-1));
    }

    private static void thoughts() {
        promise(21);
        UnexpectedBell x = rich();
        due("can", x.can(0, 0), 7);
        due("can", x.can(0, 2), 4);
        due("can, behind its last", x.can(0, 3), 0);
        due("of a bettor", x.can(2, 1), 6);
        due("without the last", x.can(1, 0), 15);
        due("none left", x.hint(0b11) + x.can(0, 0), 2);
        refused("can of nobody", -2, PromiseTest::rich, y -> y.can(3, 0));
        refused("can on no morning", -2, PromiseTest::rich, y -> y.can(0, 6));
        promise(22);
        x = rich();
        due("on its last", x.expects(0, 2), 1);
        due("not ahead", x.expects(0, 1), 0);
        due("not behind", x.expects(0, 3), 0);
        due("a sleeper on 3, 3 being a multiple of 3", x.expects(1, 3), 0);
        due("a sleeper awake", x.learn(1, 0) + x.unsay(1) + x.term(6) + x.expects(1, 5), 1 + 2 + 6 + 1);
        x = rich();
        due("a bettor", x.expects(2, 5), 1);
        due("10 times 3 below 4 times 8", x.expects(2, 0), 0);
        due("10 times 3 is 3 times 8 at least", x.learn(2, 3) + x.expects(2, 0), 5);
        due("not allowed, not bet on", x.learn(2, 0) + x.expects(2, 4), 3);
        due("no weight, not bet on", x.weight(3, 0) + x.expects(2, 3), 1);
        due("just as much", x.term(5) + x.learn(2, 2) + x.expects(2, 0), 7);
        refused("nobody", -2, PromiseTest::rich, y -> y.expects(3, 0));
        refused("no morning", -2, PromiseTest::rich, y -> y.expects(0, 6));
        promise(23);
        x = made("term 3; said 1; person 0 1; person 2 5; person 5 5; person 4 0");
        due("who(0)", x.who(0), 0);
        due("who(1)", x.who(1), 0b1111);
        due("who(2)", x.who(2), 0b0110);
        due("said twice, the sure and the wise are deeper", x.say() + x.who(0), 2 + 0b1100);
        refused("who(6)", -2, PromiseTest::rich, y -> y.who(6));
        refused("who(-1)", -2, PromiseTest::rich, y -> y.who(-1));
        promise(24);
        x = rich();
        due("first", x.first(0), 2);
        due("first", x.first(2), 5);
        due("of several", x.person(5, 9) + x.first(3), 5);
        unchanged("none", -1, PromiseTest::rich, y -> y.first(1));
        refused("nobody", -2, PromiseTest::rich, y -> y.first(3));
        promise(25);
        due("lasts", x.lasts(0), 2);
        due("of a sleeper", x.lasts(1), 3);
        due("of two mornings", made("term 2; person 0 1").lasts(0), 0);
        unchanged("none", -1, () -> made("term 1; person 0 1"), y -> y.lasts(0));
        refused("nobody", -2, PromiseTest::rich, y -> y.lasts(-1));
        promise(26);
        due("ends", x.ends(), 5);
        due("ends", x.allow(5, false) + x.ends(), 4);
        unchanged("none", -1, () -> made("term 1; never 0"), y -> y.ends());
        surprises();
    }

    private static void surprises() {
        promise(27);
        UnexpectedBell x = made("said 9; person 0 1; person 1 1; person 2 1; person 0 2; person 5 2");
        due("agree(0)", x.agree(0), 4);
        due("agree(3)", x.agree(3), 4);
        due("nothing is the same as nothing", x.agree(4), 10);
        refused("agree(6)", -2, PromiseTest::rich, y -> y.agree(6));
        refused("agree(-1)", -2, PromiseTest::rich, y -> y.agree(-1));
        promise(28);
        x = rich();
        due("surprises", x.surprises(), 0b001011);
        due("without people", fresh().surprises(), 31);
        due("none allowed", x.hint(0) + x.surprises(), 0);
        promise(45);
        due("longest", rich().longest(), 2);
        due("all", fresh().longest(), 5);
        due("none", x.longest(), 0);
        due("one that isn't allowed parts them", made("term 9; never 4").longest(), 4);
        due("the last ones", made("term 9; never 2").longest(), 6);
    }

    private static void depths() {
        promise(19);
        UnexpectedBell x = made("said 3; person 0 2; person 0 9; person 3 9; person 3 0; person 4 9; person 5 7");
        int[] depths = {2, 3, 4, 1, 3, 3};
        for (int one = 0; one < 6; one++) {
            due("depth", x.personOf(one, 2), depths[one]);
        }
        due("wise, said more", x.unsay(9) + x.personOf(4, 2), 3 + 9);
        due("wise, one more than the greatest", x.learn(2, 1) + x.learn(1, 1) + x.learn(5, 6) + x.personOf(4, 2),
            9 + 9 + 7 + 7);
        due("all wise", made("person 4 5; person 4 6").personOf(1, 2), 0);
        due("an usher, nothing said", made("said 0; person 3 5").personOf(0, 2), 1);
        promise(39);
        x = made("said 3; person 0 2; person 0 1; person 2 1; person 5 1; person 2 3; person 1 2");
        due("deeper than a pupil", x.foresees(0, 1), 1);
        due("less deep", x.foresees(1, 0), 0);
        due("as deep", x.foresees(0, 5), 0);
        due("not a bettor", x.foresees(0, 2), 0);
        due("nor one who is sure", x.foresees(0, 3), 0);
        due("a bettor foresees", x.foresees(4, 0), 1);
        refused("the same", -2, PromiseTest::rich, y -> y.foresees(1, 1));
        refused("nobody", -2, PromiseTest::rich, y -> y.foresees(3, 1));
        refused("another nobody", -2, PromiseTest::rich, y -> y.foresees(1, 3));
        promise(40);
        due("foreseen", x.foreseen(1), 0b110001);
        due("foreseen", x.foreseen(0), 0b010000);
        due("not a bettor", x.foreseen(2), 0);
        refused("nobody", -2, PromiseTest::rich, y -> y.foreseen(3));
        promise(41);
        due("deepest", x.deepest(), 4);
        due("the first", x.learn(1, 3) + x.deepest(), 2);
        due("one alone", made("person 4 9").deepest(), 0);
        refused("no people", -5, PromiseTest::fresh, y -> y.deepest());
    }

    private static void lots() {
        promise(29);
        UnexpectedBell x = rich();
        due("odds", x.odds(0), 375000);
        due("cut", made("term 3").odds(0), 333333);
        due("not allowed", x.odds(4), 0);
        due("the last", x.odds(5), 1000000);
        refused("stuck", -5, PromiseTest::weightless, y -> y.odds(0));
        refused("bad", -2, PromiseTest::weightless, y -> y.odds(2));
        refused("bad below", -2, PromiseTest::rich, y -> y.odds(-1));
        promise(30);
        due("likeliest", x.likeliest(), 5);
        due("the last that has any", x.weight(5, 0) + x.likeliest(), 5);
        refused("none", -5, PromiseTest::weightless, y -> y.likeliest());
        promise(31);
        due("caught", rich().caught(), 375000);
        due("nobody there", fresh().caught(), 0);
        due("cut", made("term 3; person 0 0").caught(), 333333);
        refused("stuck", -5, PromiseTest::weightless, y -> y.caught());
        promise(47);
        x = rich();
        int[] by = {375000, 500000, 625000, 750000, 750000, 1000000};
        for (int m = 0; m < 6; m++) {
            due("by(" + m + ")", x.by(m), by[m]);
        }
        due("cut", made("term 3").by(1), 666666);
        refused("stuck", -5, PromiseTest::weightless, y -> y.by(0));
        refused("bad", -2, PromiseTest::weightless, y -> y.by(2));
        refused("bad below", -2, PromiseTest::rich, y -> y.by(-1));
        promise(48);
        due("mean", x.mean(), 2000);
        due("cut", made("term 4; never 0; weight 3 2").mean(), 2250);
        due("cut", made("term 3; weight 0 0; weight 1 2").mean(), 1333);
        refused("stuck", -5, PromiseTest::weightless, y -> y.mean());
        wagers();
    }

    private static void wagers() {
        promise(33);
        UnexpectedBell x = rich();
        due("gain", x.gain(0, 3), 125000);
        due("a loss, cut", made("term 3").gain(0, 1), 333333 - 1000000);
        due("not allowed", x.gain(4, 40), -1000000);
        due("the most", made("term 1; weight 0 9").gain(0, 40), 39000000);
        refused("w 0", FAR - 2, PromiseTest::rich, y -> y.gain(0, 0));
        refused("w 41", FAR - 2, PromiseTest::rich, y -> y.gain(0, 41));
        refused("no morning", FAR - 2, PromiseTest::weightless, y -> y.gain(2, 1));
        refused("morning -1", FAR - 2, PromiseTest::rich, y -> y.gain(-1, 1));
        refused("stuck", FAR - 5, PromiseTest::weightless, y -> y.gain(0, 1));
        promise(34);
        due("bet(3)", x.bet(3), 0);
        due("bet(2)", x.bet(2), 5);
        due("bet(1)", x.bet(1), 5);
        unchanged("none", -1, PromiseTest::weightless, y -> y.bet(40));
        due("no weight behind is left out", x.weight(5, 0) + x.bet(1), 5);
        refused("w 0", -2, PromiseTest::rich, y -> y.bet(0));
        refused("w 41", -2, PromiseTest::rich, y -> y.bet(41));
        promise(49);
        x = rich();
        due("fair(0)", x.fair(0), 3);
        due("fair(1)", x.fair(1), 5);
        due("fair(5)", x.fair(5), 1);
        unchanged("not allowed", -1, PromiseTest::rich, y -> y.fair(4));
        unchanged("no weights", -1, PromiseTest::weightless, y -> y.fair(0));
        due("40", made("term 6; weight 1 9; weight 2 9; weight 3 9; weight 4 9; weight 5 3").fair(0), 40);
        due("more than 40", made("term 6; weight 1 9; weight 2 9; weight 3 9; weight 4 9; weight 5 4").fair(0), -1);
        refused("no morning", -2, PromiseTest::rich, y -> y.fair(6));
        refused("morning -1", -2, PromiseTest::rich, y -> y.fair(-1));
        books();
    }

    private static void books() {
        promise(50);
        UnexpectedBell x = rich();
        tell(x, 4, 2, 3, 520);
        due("book", x.book(4, 2), 4125000);
        due("the first of them", x.book(4, 1), 125000);
        due("none", x.book(4, 0), 0);
        tell(x, 4, 2, 1, 1, 440, 1, 1, -1);
        due("one not allowed", x.book(4, 5), -4 * 625000 - 1000000);
        tell(x, 5, 4, 1);
        due("booleans are numbers", x.book(5, 1), -625000);
        refused("n 6", FAR - 2, PromiseTest::rich, y -> y.book(3, 6));
        refused("n -1", FAR - 2, PromiseTest::rich, y -> y.book(3, -1));
        refused("no shelf", FAR - 2, PromiseTest::rich, y -> y.book(8, 0));
        refused("somebody", FAR - 3, PromiseTest::rich, y -> y.book(3, 5));
        refused("nothing", FAR - 4, PromiseTest::rich, y -> y.book(4, 5));
        refused("fewer elements", FAR - 2, PromiseTest::rich, y -> y.book(1, 4));
        long[] none = {0, 41, 100, 600, 601, 99, -1, -99, 1L << 32, (1L << 32) + 1, Long.MIN_VALUE, Long.MAX_VALUE};
        for (long v : none) {
            refused("none such: " + v, FAR - 2, () -> {
                UnexpectedBell made = rich();
                made.set(1, 0, v);
                return made;
            }, y -> y.book(1, 1));
        }
        refused("stuck", FAR - 5, PromiseTest::weightless, y -> y.book(0, 2));
        refused("stuck, even for none", FAR - 5, PromiseTest::weightless, y -> y.book(0, 0));
        refused("bad ahead of stuck", FAR - 2, PromiseTest::weightless, y -> y.book(0, 3));
    }

    private static void bests() {
        promise(32);
        UnexpectedBell x = rich();
        x.person(3, 1);
        x.person(4, 0);
        x.person(5, 9);
        due("the least", x.best(3, -1), 2);
        int[] row = {0, 0, 0, 1, 0, 2};
        for (int m = 0; m < 6; m++) {
            due("its weight of " + m, x.best(3, m), row[m]);
        }
        due("weights are as they were", x.status(4), 8);
        x = made("term 9");
        due("nobody expects it", x.best(6, -1), 0);
        due("the first row", x.best(6, 8), 6);
        due("the first row", x.best(6, 0), 0);
        x = made("term 1; person 0 0");
        due("all caught", x.best(6, -1), 6);
        due("all on it", x.best(6, 0), 6);
        x = made("term 3; person 2 6; never 2");
        due("by bets", x.best(2, -1), 1);
        due("by bets, the first", x.best(2, 0) * 10 + x.best(2, 1), 11);
        refused("t 0", -2, PromiseTest::rich, y -> y.best(0, -1));
        refused("t 7", -2, PromiseTest::rich, y -> y.best(7, -1));
        refused("no morning", -2, PromiseTest::rich, y -> y.best(1, 6));
        refused("morning -2", -2, PromiseTest::rich, y -> y.best(1, -2));
        refused("none allowed", -5, () -> made("term 1; never 0"), y -> y.best(1, 0));
        refused("bad ahead of stuck", -2, () -> made("term 1; never 0"), y -> y.best(1, 1));
    }

    private static void whatIfs() {
        promise(35);
        due("will", made("term 1; person 0 9").will(), 0);
        due("will, by two", made("term 2; person 0 0; person 0 1").will(), 1);
        due("none allowed", made("term 1; never 0; said 4").will(), 0);
        unchanged("none", -1, PromiseTest::rich, y -> y.will());
        due("will, by three", made("term 3; said 9; person 0 0; person 0 1; person 0 9").will(), 2);
        promise(36);
        UnexpectedBell x = made("term 3; person 0 0; person 0 1; person 0 1");
        due("alone on it", x.spoils(0), 1);
        due("not alone", x.spoils(1), 0);
        x = made("said 9; person 2 1; person 0 2; person 4 0; person 0 3; never 0");
        due("a bettor on all of them: the two that nobody else expects", x.spoils(0), 2);
        x = made("term 2; said 5; person 0 0; person 3 4; person 4 0");
        due("below 0: the wise one then expects it", x.spoils(1), -1);
        due("nothing changed", x.status(1), 3);
        refused("nobody", FAR - 2, PromiseTest::rich, y -> y.spoils(3));
        refused("nobody below", FAR - 2, PromiseTest::rich, y -> y.spoils(-1));
        promise(37);
        due("spoiler", made("term 3; person 0 1; person 0 1; person 0 0").spoiler(), 2);
        due("the first", made("term 3; person 0 1; person 0 0").spoiler(), 0);
        due("below 0 is less than 0", made("term 2; said 5; person 3 4; person 4 0; person 0 0").spoiler(), 2);
        due("the most of unlike ones", made("said 3; person 0 0; person 2 3; person 0 3").spoiler(), 1);
        refused("no people", -5, PromiseTest::fresh, y -> y.spoiler());
        promise(38);
        x = rich();
        due("a pupil on 5", x.deeper(0, 5), 0);
        due("a pupil on 3", x.deeper(0, 3), 1);
        due("a pupil on 2, by as much as is said", x.deeper(0, 2), 2);
        due("a sleeper on 3 sleeps, by 1", x.deeper(1, 3), -1);
        due("a bettor", x.deeper(2, 5), 0);
        due("a as it was", x.personOf(0, 1), 2);
        due("wise, by none", x.person(4, 5) + x.deeper(3, 2), 3);
        unchanged("none", -1, PromiseTest::rich, y -> y.deeper(0, 1));
        refused("nobody", -2, PromiseTest::rich, y -> y.deeper(3, 0));
        refused("no morning", -2, PromiseTest::rich, y -> y.deeper(0, 6));
        moreWhatIfs();
    }

    private static void moreWhatIfs() {
        promise(43);
        UnexpectedBell x = made("term 6; never 4; weight 0 3; weight 5 2; said 2;"
            + "person 0 2; person 1 1; person 2 4; person 3 1; person 4 0; person 5 9");
        due("all pupils", x.crowd(0), 0b000011);
        due("all wise", x.crowd(4), 0b001111);
        due("all sleepers", x.crowd(1), 0b001011);
        due("all bettors", x.crowd(2), 0);
        due("kinds as they were", x.personOf(5, 0), 5);
        due("as things stand by now", x.unsay(0) + x.crowd(0), 2 + 0b001111);
        due("no people", fresh().crowd(3), 31);
        refused("kind 6", -2, PromiseTest::rich, y -> y.crowd(6));
        refused("kind -1", -2, PromiseTest::rich, y -> y.crowd(-1));
        promise(44);
        x = made("said 3; person 0 9");
        int[] levels = {4, 3, 2, 1, 0};
        for (int m = 0; m < 5; m++) {
            due("level(" + m + ")", x.level(m), levels[m]);
        }
        due("said as it was", x.status(2), 3);
        due("not allowed", x.allow(1, false) + x.level(1), 1);
        unchanged("none", -1, PromiseTest::rich, y -> y.level(1));
        refused("level(6)", -2, PromiseTest::rich, y -> y.level(6));
        refused("level(-1)", -2, PromiseTest::rich, y -> y.level(-1));
        promise(51);
        x = rich();
        due("second", x.second(3, 2), 0b101100);
        due("right behind", x.second(3, 0), 0b100000);
        due("all", x.second(0, 8), 0b101111);
        due("on the last", x.second(5, 0), 0);
        refused("no morning", -2, PromiseTest::rich, y -> y.second(6, 0));
        refused("g 9", -2, PromiseTest::rich, y -> y.second(0, 9));
        refused("g -1", -2, PromiseTest::rich, y -> y.second(0, -1));
        promise(52);
        due("all of them", fresh().hints(0), 31);
        due("how many", fresh().hints(1), 5);
        x = made("said 9; person 0 9");
        due("deeper than there are mornings", x.hints(0), 31);
        x = made("term 3; person 0 0");
        due("the last is expected", x.hints(1), 2);
        due("all are needed", x.hints(0), 7);
        x = made("term 3; weight 2 0; person 2 0");
        due("the fewest mornings", x.hints(0), 4);
        due("how many", x.hints(1), 1);
        due("nobody can be surprised: no morning", made("term 2; person 0 0; person 0 1").hints(0), 0);
        x = made("term 3; weight 1 2; weight 2 2; person 2 5");
        due("0 and 1 do as well as 0 and 2: the least as bits", x.hints(0), 3);
        due("how many", x.hints(1), 1);
        due("allowed as they were", x.status(3), 7);
        due("of those allowed alone", x.hint(6) + x.hints(0), 2);
        refused("what 2", -2, PromiseTest::rich, y -> y.hints(2));
        refused("what -1", -2, PromiseTest::rich, y -> y.hints(-1));
        due("none allowed", made("term 1; never 0").hints(0), 0);
    }

    private static void toldRows() {
        promise(53);
        UnexpectedBell x = rich();
        due("one rule", x.rules(0, 3, 0), 1);
        due("the next", x.rules(0, 3, 1), 2);
        due("by one term, all k", x.rules(0, 1, 0), 6);
        due("the next of these", x.rules(0, 1, 1), 63);
        due("no rule", x.rules(0, 4, 0), 0);
        due("no next", x.rules(0, 4, 1), 0);
        tell(x, 4, 0, 1, 4);
        due("mornings needn't be allowed", x.rules(4, 2, 1), 2);
        tell(x, 4, 3, (1L << 32) + 1);
        due("no morning, cut to an int or not", x.rules(4, 1, 0), -2);
        x.term(1);
        x.row(4, 0, 40);
        due("40 terms", x.rules(4, 40, 0), 1);
        refused("no shelf", -2, PromiseTest::rich, y -> y.rules(8, 1, 0));
        refused("n 0", -2, PromiseTest::rich, y -> y.rules(3, 0, 0));
        refused("n 41", -2, PromiseTest::rich, y -> y.rules(4, 41, 0));
        refused("what 2", -2, PromiseTest::rich, y -> y.rules(3, 1, 2));
        refused("somebody", -3, PromiseTest::rich, y -> y.rules(3, 1, 0));
        refused("nothing", -4, PromiseTest::rich, y -> y.rules(4, 1, 0));
        refused("fewer elements", -2, PromiseTest::rich, y -> y.rules(0, 7, 0));
        refused("no mornings", -2, PromiseTest::rich, y -> y.rules(1, 1, 0));
        promise(54);
        x = made("term 3; said 1; person 0 1; person 2 5; person 5 5; person 4 0");
        tell(x, 0, 0, 0, 15, 6);
        due("all is so", x.judge(0), -1);
        due("nothing refused", x.status(12), 0);
        tell(x, 0, 0, 0, 15, 7, 99);
        due("the first that isn't", x.judge(0), 2);
        tell(x, 0, 0, 8, 15, 7);
        due("the first that isn't", x.judge(0), 0);
        tell(x, 0, 3, 16, 15 | 1L << 40, 6 - 64);
        due("bits of people that there are alone", x.judge(0), -1);
        refused("no shelf", -2, PromiseTest::rich, y -> y.judge(8));
        refused("somebody", -3, PromiseTest::rich, y -> y.judge(3));
        refused("nothing", -4, PromiseTest::rich, y -> y.judge(4));
        refused("fewer elements", -2, PromiseTest::rich, y -> y.judge(1));
        promise(55);
        due("unlike, none", x.unlike(0), 0);
        tell(x, 0, 2, 8, 0, 23);
        due("told of one who doesn't, not of those who do", x.unlike(0), 1 + 4 + 1);
        refused("no shelf", -2, PromiseTest::rich, y -> y.unlike(-1));
        refused("somebody", -3, PromiseTest::rich, y -> y.unlike(3));
        refused("nothing", -4, PromiseTest::rich, y -> y.unlike(4));
        refused("fewer elements", -2, PromiseTest::rich, y -> y.unlike(1));
    }

    private static void truth() {
        promise(56);
        UnexpectedBell x = fresh();
        x.person(0, 1);
        due("ring", x.ring(), 3);
        due("seed", x.status(9), 1103527590);
        due("terms", x.status(5), 1);
        due("failed: it was expected", x.status(7), 1);
        due("faces", x.status(6), 0);
        x = rich();
        due("by weights", x.ring(), 5);
        due("faces: two didn't", x.status(6), 2);
        due("failed", x.status(7), 1);
        x.seed(MIN);
        due("by the upper bits", x.ring(), 0);
        due("seed", x.status(9), MIN + 12345);
        due("faces: nobody did", x.status(6), 5);
        due("not failed", x.status(7), 1);
        x = fresh();
        due("upper bits without a sign", x.seed(MIN) + x.ring(), 1 + 32768 % 5);
        refused("stuck", -5, PromiseTest::weightless, y -> y.ring());
        promise(57);
        x = rich();
        x.person(3, 1);
        x.person(4, 0);
        x.person(5, 9);
        x.ring();
        due("rings", x.rings(9), 3);
        due("terms", x.status(5), 10);
        due("failed", x.status(7), 4);
        due("faces", x.status(6), 50);
        due("the most", fresh().rings(40), 0);
        refused("n 0", -2, PromiseTest::weightless, y -> y.rings(0));
        refused("n 41", -2, PromiseTest::rich, y -> y.rings(41));
        refused("stuck", -5, PromiseTest::weightless, y -> y.rings(1));
        promise(58);
        due("learn", x.learn(1, 9), 1);
        due("learn", x.learn(1, 0), 9);
        due("a", x.personOf(1, 1), 0);
        refused("nobody", -2, PromiseTest::rich, y -> y.learn(3, 0));
        refused("a 10", -2, PromiseTest::rich, y -> y.learn(0, 10));
        refused("a -1", -2, PromiseTest::rich, y -> y.learn(0, -1));
        promise(59);
        x = fresh();
        due("seed", x.seed(MAX), 1);
        due("seed", x.seed(-7), MAX);
        due("seed", x.status(9), -7);
    }

    private static void images() {
        promise(46);
        UnexpectedBell x = rich();
        x.show(0, 2);
        due("leave", x.leave(), 2);
        due("who held them holds nothing", x.holds(0), -1);
        due("others stay", x.holds(3), 11);
        due("leave", x.leave() + x.leave(), 1);
        due("people", x.status(1), 0);
        refused("none", -5, PromiseTest::fresh, y -> y.leave());
        promise(60);
        x = rich();
        due("image", x.image(), 1);
        promise(61);
        x.show(5, 0);
        x.person(5, 5);
        x.show(6, 3);
        x.rings(3);
        x.hint(1);
        x.weight(0, 7);
        x.unsay(7);
        x.learn(0, 9);
        x.feed('x');
        x.row(7, 1, 2);
        int refusals = x.status(12);
        x.term(0);
        due("back", x.back(), 1);
        int[] status = {6, 3, 2, 47, 8, 0, 0, 0, 2, 1, 6, 11, refusals + 1};
        for (int what = 0; what < status.length; what++) {
            due("status(" + what + ")", x.status(what), status[what]);
        }
        due("weight", x.morningOf(0, 1), 3);
        due("a", x.personOf(0, 1), 2);
        due("somebody of the same number", x.holds(5), 10);
        due("nobody of that number", x.holds(6), -1);
        due("a row", x.holds(7), 1);
        promise(60);
        x.term(9);
        x.leave();
        due("kept once, back twice", x.back() + x.status(0), 7);
        x.ring();
        x.image();
        x.ring();
        x.back();
        due("terms are kept, too", x.status(5), 1);
        due("seed is kept, too", x.status(9), 1103527590);
        promise(61);
        refused("nothing was", -5, PromiseTest::weightless, y -> y.back());
    }

    private static void states() {
        promise(62);
        UnexpectedBell x = rich();
        int[] status = {6, 3, 2, 47, 8, 0, 0, 0, 1, 1, 4, 11, 0, 0, 0, 0, 0, -1};
        for (int what = 0; what < status.length; what++) {
            due("status(" + what + ")", x.status(what), status[what]);
        }
        due("below", x.status(-1), -1);
        due("far", Math.max(x.status(MIN), x.status(MAX)), -1);
        x.term(0);
        x.says(0, 0);
        x.judge(7);
        x.unsay(9);
        x.say();
        due("bad", x.status(12), 1);
        due("other", x.status(13), 1);
        due("nothing", x.status(14), 1);
        due("stuck", x.status(15), 0);
        due("full", x.status(16), 1);
        x.gain(0, 0);
        x.book(3, 1);
        x.spoils(9);
        due("bad, far below", x.status(12), 3);
        due("other, far below", x.status(13), 2);
    }
}
