/** The edges of the tape and of schools read from it: promises 16 to 18. */
final class TextEdges extends Edge {
    private TextEdges() {
    }

    static void all() {
        feeding();
        wiping();
        tokens();
        blanks();
        statements();
        numbers();
        hints();
        room();
        wholeOrNothing();
        ends();
    }

    private static UnexpectedBell fullTape() {
        UnexpectedBell x = fresh();
        for (char letter : "said 7".toCharArray()) {
            x.feed(letter);
        }
        for (int i = 6; i < 250; i++) {
            x.feed(32);
        }
        return x;
    }

    private static void feeding() {
        edge(16, "THE TAPE gets one byte (0 to 255) behind it: its size.", () -> runs(fresh(), "feed(0) = 1",
            "feed(255) = 2", "feed(256) = -2", "feed(-1) = -2", "status(8) = 2"));
        edge(16, "THE TAPE (bytes, 250 at most)", () -> runs(fullTape(), "status(8) = 250", "feed(32) = -6",
            "status(8) = 250", "school() = 1", "status(2) = 7", "feed(32) = 1"));
        edge(16, "BAD", () -> refused(BAD, Edge::lively, "feed(-1)", "feed(256)", "feed(-2147483648)",
            "feed(2147483647)", "feed(-224)"));
        edge(16, "FULL", () -> refused(FULL, TextEdges::fullTape, "feed(0)", "feed(32)", "feed(255)"));
        edge(16, "BAD; FULL.", () -> refused(BAD, TextEdges::fullTape, "feed(-1)", "feed(256)"));
    }

    private static void wiping() {
        edge(17, "THE TAPE is empty: its size ahead.", () -> runs(lively(), "wipe() = 14", "status(8) = 0",
            "school() = -20"));
        edge(17, "THE TAPE is empty", () -> {
            unchanged(0, Trial::fresh, "wipe()");
            runs(fullTape(), "wipe() = 250", "wipe() = 0", "feed(59) = 1", "school() = -20");
        });
    }

    private static void tokens() {
        edge(18, "TOKENS, each as long as can be", () -> {
            school(fresh(), "term9", 1, "status(0) = 9");
            school(fresh(), "weight4 07;person5 9", 2, "morningOf(4, 1) = 7", "personOf(0, 1) = 9");
            fault(Edge::lively, "weight 44", 7);
            fault(Edge::lively, "weight 12 3", 7);
            fault(Edge::lively, "termx 5", 0);
            fault(Edge::lively, "te rm 5", 0);
            fault(Edge::lively, "term 1 2", 7);
        });
        edge(18, "WORDS (a .. z)", () -> {
            school(fresh(), "said 0", 1, "status(2) = 0");
            fault(Edge::lively, "Said 0", 0);
            fault(Edge::lively, "said`0", 4);
            fault(Edge::lively, "said{0", 4);
            fault(Edge::lively, "terma 5", 0);
            fault(Edge::lively, "termz 5", 0);
            fault(Edge::lively, "said a", 5);
            fault(Edge::lively, "a", 0);
            fault(Edge::lively, "z 1", 0);
        });
        edge(18, "NUMBERS (digits)", () -> {
            school(fresh(), "said 9;said 0", 2, "status(2) = 0");
            fault(Edge::lively, "said /", 5);
            fault(Edge::lively, "said :", 5);
            fault(Edge::lively, "said -1", 5);
            fault(Edge::lively, "said 1/", 6);
            fault(Edge::lively, "said 1:", 6);
        });
        edge(18, "a byte that begins none", () -> {
            fault(Edge::lively, "\u0000", 0);
            fault(Edge::lively, "said 1\u00ff", 6);
            fault(Edge::lively, "said 1\u0080", 6);
            fault(Edge::lively, "said 1,said 2", 6);
            fault(Edge::lively, "said \u00e9", 5);
            fault(Edge::lively, "said 1 ; \u0000", 9);
        });
        edge(18, "WORDS (a .. z), NUMBERS (digits), the SIGN ;", () -> {
            for (int letter = 0; letter < 256; letter++) {
                // Behind "said 1", a digit makes the number 1x longer, and a word can't stand there.
                boolean isDigit = letter >= '0' && letter <= '9';
                boolean isEnd = letter == ' ';
                String text = "said 1" + (char) letter;
                int want = isEnd ? 1 : isDigit ? -25 : letter == ';' ? -27 : -26;
                due("school of 'said 1' and byte " + letter, read(fresh(), text), want);
            }
        });
    }

    private static void blanks() {
        edge(18, "blanks (32) may stand anywhere between", () -> {
            school(fresh(), "  said   3  ;  weight  1   2 ;hint 0  1   2  ", 3, "status(2) = 3", "status(3) = 7",
                "morningOf(1, 1) = 2");
            school(fresh(), "said3;weight1 2;hint0 1", 3, "status(2) = 3", "status(3) = 3");
            fault(Edge::lively, "said\u001f3", 4);
            fault(Edge::lively, "said!3", 4);
            fault(Edge::lively, "said\t3", 4);
            fault(Edge::lively, "said 3\n", 6);
            fault(Edge::lively, "sa id 3", 0);
            fault(Edge::lively, "weight 0 1 2", 11);
        });
    }

    private static void statements() {
        edge(18, "STATEMENTS, one or more, with ; between", () -> {
            school(fresh(), "said 2", 1, "status(2) = 2");
            school(fresh(), "said 2;said 3;said 4", 3, "status(2) = 4");
            fault(Edge::lively, ";", 0);
            fault(Edge::lively, ";said 2", 0);
            fault(Edge::lively, "said 2;;said 3", 7);
            fault(Edge::lively, "said 2 said 3", 7);
            fault(Edge::lively, "said 2 3", 7);
            fault(Edge::lively, "said;2", 4);
            fault(Edge::lively, "2", 0);
            fault(Edge::lively, "said 2;3", 7);
        });
        edge(18, "how many STATEMENTS", () -> {
            StringBuilder text = new StringBuilder("said0");
            for (int i = 1; i < 41; i++) {
                text.append(";said").append(i % 10);
            }
            due("bytes of the text", text.length(), 245);
            school(fresh(), text.toString(), 41, "status(2) = 0", "status(8) = 0", "status(12) = 0");
        });
        edge(18, "the first TOKEN that can't stand there", () -> {
            for (String word : new String[] {"terms", "ter", "nevers", "neve", "weights", "weigh", "saids", "sai",
                "persons", "perso", "hints", "hin", "never1never", "x", "ferm", "lever", "height", "paid", "version",
                "mint", "turm", "tern", "newer", "nevel", "weight0weight", "side", "saix", "purson", "persom", "hunt",
                "hind"}) {
                int place = word.equals("never1never") ? 6 : word.equals("weight0weight") ? 7 : 0;
                fault(Edge::lively, word + " 1 1", place);
            }
            for (String word : new String[] {"term", "never", "weight", "said", "person", "hint"}) {
                fault(Edge::lively, word + " said", word.length() + 1);
                fault(Edge::lively, word + ";", word.length());
                fault(Edge::lively, word + " " + word + " 99", word.length() + 1);
            }
            fault(Edge::lively, "weight 1 said", 9);
            fault(Edge::lively, "weight 1;said 1", 8);
            fault(Edge::lively, "person 1 said", 9);
            fault(Edge::lively, "person 1;", 8);
            fault(Edge::lively, "hint 1 said 1", 7);
        });
    }

    private static void numbers() {
        edge(18, "term N (MORNINGS become N, all of them as at first)", () -> {
            school(after(lively(), "wipe()"), "term 1", 1, "status(0) = 1", "status(3) = 1", "status(4) = 1");
            school(after(lively(), "wipe()"), "term 9", 1, "status(0) = 9", "status(3) = 511", "status(4) = 9");
            school(fresh(), "never 1;weight 0 9;term 5", 3, "status(3) = 31", "status(4) = 5");
            fault(Edge::lively, "term 0", 5);
            fault(Edge::lively, "term 10", 5);
            fault(Edge::lively, "term 99", 5);
        });
        edge(18, "never M (it is not ALLOWED)", () -> {
            school(fresh(), "never 0;never 4;never 0", 3, "status(3) = 14");
            school(fresh(), "term 9;never 8", 2, "status(3) = 255");
            fault(Edge::lively, "never 6", 6);
            fault(Trial::fresh, "never 5", 6);
            fault(Trial::fresh, "term 9;never 9", 13);
            fault(Trial::fresh, "term 3;never 3", 13);
        });
        edge(18, "weight M W", () -> {
            school(fresh(), "weight 4 9;weight 0 0", 2, "morningOf(4, 1) = 9", "morningOf(0, 1) = 0");
            school(fresh(), "never 3;weight 3 5", 2, "morningOf(3, 1) = 5", "morningOf(3, 0) = 0");
            fault(Trial::fresh, "weight 5 1", 7);
            fault(Trial::fresh, "weight 4 10", 9);
            fault(Trial::fresh, "weight 5 10", 7);
            fault(Trial::fresh, "term 1;weight 1 1", 14);
        });
        edge(18, "said N", () -> {
            school(fresh(), "said 0", 1, "status(2) = 0");
            school(fresh(), "said 9", 1, "status(2) = 9");
            fault(Trial::fresh, "said 10", 5);
        });
        edge(18, "person K A", () -> {
            school(after(lively(), "wipe()"), "person 5 0", 1, "status(1) = 6", "personOf(5, 0) = 5",
                "personOf(5, 1) = 0", "personOf(0, 0) = 5");
            school(fresh(), "person 0 9", 1, "personOf(0, 0) = 0", "personOf(0, 1) = 9");
            fault(Trial::fresh, "person 6 0", 7);
            fault(Trial::fresh, "person 0 10", 9);
            fault(Trial::fresh, "person 6 10", 7);
        });
        edge(18, "(also a NUMBER that may not be, or has more than 2 digits", () -> {
            school(fresh(), "term 06;never 00;weight 01 09;said 00;person 05 09;hint 01 02", 6, "status(0) = 6",
                "status(3) = 6", "morningOf(1, 1) = 9", "status(2) = 0", "personOf(0, 0) = 5");
            fault(Trial::fresh, "term 006", 5);
            fault(Trial::fresh, "never 000", 6);
            fault(Trial::fresh, "weight 000 1", 7);
            fault(Trial::fresh, "weight 0 001", 9);
            fault(Trial::fresh, "said 001", 5);
            fault(Trial::fresh, "person 000 1", 7);
            fault(Trial::fresh, "person 0 001", 9);
            fault(Trial::fresh, "hint 001", 5);
            fault(Trial::fresh, "hint 0 001", 7);
            fault(Trial::fresh, "said 4294967297", 5);
            fault(Trial::fresh, "said 100000000000000000000000000000001", 5);
        });
    }

    private static void hints() {
        edge(18, "hint M, perhaps M, and so on (MORNINGS, each once: those not told aren't ALLOWED any more)", () -> {
            school(fresh(), "hint 4", 1, "status(3) = 16");
            school(fresh(), "hint 4 3 2 1 0", 1, "status(3) = 31");
            school(fresh(), "term 9;hint 0 1 2 3 4 5 6 7 8", 2, "status(3) = 511");
            school(fresh(), "never 2;hint 2 3", 2, "status(3) = 8");
            school(fresh(), "hint 0 1;hint 2 3", 2, "status(3) = 0");
            school(fresh(), "hint 0 1;term 3", 2, "status(3) = 7");
            fault(Trial::fresh, "hint 5", 5);
            fault(Trial::fresh, "hint 0 5", 7);
            fault(Trial::fresh, "term 2;hint 2", 12);
        });
        edge(18, "one told twice of hint", () -> {
            fault(Trial::fresh, "hint 0 0", 7);
            fault(Trial::fresh, "hint 1 2 01", 9);
            fault(Trial::fresh, "hint 0 1 2 3 4 0", 15);
            fault(Trial::fresh, "hint 0 1 2 3 4 5", 15);
            fault(Trial::fresh, "term 1;hint 0 0", 14);
            fault(Trial::fresh, "term 9;hint 0 1 2 3 4 5 6 7 8 8", 30);
        });
    }

    private static void room() {
        edge(18, "what there is no room for: its word", () -> {
            school(after(lively(), "wipe()"), "person 0 0", 1, "status(1) = 6");
            fault(Edge::crowded, "person 0 0", 0);
            fault(Edge::crowded, "  person 0 0", 2);
            fault(Edge::crowded, "said 1;person 0 0", 7);
            fault(Edge::lively, "person 0 0;said 1;person 1 1", 18);
            fault(Trial::fresh, "person 0 0;person 0 0;person 0 0;person 0 0;person 0 0;person 0 0;person 0 0", 66);
            school(fresh(), "person 0 0;person 0 0;person 0 0;person 0 0;person 0 0;person 0 0", 6, "status(1) = 6",
                "status(16) = 0");
        });
        edge(18, "the first TOKEN that can't stand there (also", () -> {
            fault(Edge::crowded, "person", 0);
            fault(Edge::crowded, "person 9 0", 0);
            fault(Edge::crowded, "said 1;person;", 7);
        });
    }

    private static void wholeOrNothing() {
        edge(18, "All comes to what there is, or nothing.", () -> {
            school(after(lively(), "wipe()"), "said 4;person 2 2", 2, "status(0) = 6", "status(3) = 47",
                "status(2) = 4", "status(1) = 6", "status(4) = 8", "status(5) = 2", "holds(3) = 12");
            fault(Edge::lively, "term 3;never 0;weight 1 9;said 0;person 0 0;hint 1;said 10", 56);
            fault(Edge::lively, "term 9;said", 11);
            fault(Edge::lively, "term 3;", 7);
        });
        edge(18, "THE TAPE is empty then, either way.", () -> {
            school(lively(), "", 2, "status(8) = 0", "feed(32) = 1");
            UnexpectedBell x = fresh();
            school(x, "said 10", -25, "status(8) = 0", "status(12) = 1", "status(16) = 0");
            school(x, "said 1", 1);
        });
        edge(18, "-20 less the FAULT (that is refused, too: BAD)", () -> {
            fault(Edge::lively, "x", 0);
            fault(Edge::lively, "said x", 5);
            runs(after(lively(), "feed(0)"), "school() = -34", "status(12) = 2", "status(13) = 2");
        });
    }

    private static void ends() {
        edge(18, "THE TAPE's size, if it ends too early.", () -> {
            fault(Edge::lively, "", 0);
            fault(Edge::lively, " ", 1);
            fault(Edge::lively, "said 1;", 7);
            fault(Edge::lively, "said 1;  ", 9);
            for (String word : new String[] {"term", "never", "weight", "said", "person", "hint", "weight 1",
                "person 1"}) {
                fault(Edge::lively, word, word.length());
                fault(Edge::lively, word + "  ", word.length() + 2);
            }
        });
        edge(18, "if it ends too early", () -> {
            UnexpectedBell x = fresh();
            for (int i = 0; i < 250; i++) {
                x.feed(32);
            }
            runs(x, "school() = -270", "status(8) = 0", "status(12) = 1");
            StringBuilder text = new StringBuilder("said 1");
            while (text.length() < 249) {
                text.append(' ');
            }
            school(fresh(), text + ";", -270);
            school(fresh(), text + "x", -269);
            school(fresh(), text + " ", 1);
        });
    }
}
