import java.lang.reflect.Method;
import java.util.List;

/**
 * What the tests share: ways to make an object and to ask it, a count of wrong answers, and a look at all
 * that an object holds.
 */
abstract class Trial {
    interface Call {
        long on(UnexpectedBell x);
    }

    interface Making {
        UnexpectedBell make();
    }

    private interface Look {
        String at(UnexpectedBell x);
    }

    static final int PROMISES = 62;
    static final int NONE = -1;
    static final int BAD = -2;
    static final int OTHER = -3;
    static final int NOTHING = -4;
    static final int STUCK = -5;
    static final int FULL = -6;
    static final int FAR = -10000000;
    static final int MIN = Integer.MIN_VALUE;
    static final int MAX = Integer.MAX_VALUE;

    /** Each in an object of its own: together they would need more calls than an object promises to answer. */
    private static final List<Look> LOOKS = List.of(Trial::standing, x -> shelves(x, 0, 4),
        x -> shelves(x, 4, 8), x -> x.school() + " by the tape: " + standing(x),
        x -> x.back() + " by the image: " + standing(x));

    static final int[] checks = new int[PROMISES + 1];
    static int promise = 0;
    static int wrong = 0;

    static void promise(int number) {
        promise = number;
    }

    static void due(String what, long got, long want) {
        checks[promise]++;
        if (got != want) {
            fail(what + " answered " + got + ", due is " + want);
        }
    }

    static void fail(String what) {
        wrong++;
        System.out.println("promise " + promise + ": " + what);
    }

    /** Ends the run, with exit code 1 if an answer was wrong. */
    static void close(String allWell) {
        System.out.println(wrong == 0 ? allWell : wrong + " answers are not as due");
        if (wrong != 0) {
            System.exit(1);
        }
    }

    /** The call answers the number, counts it once and changes nothing else. */
    static void refused(String what, long number, Making making, Call call) {
        int place = 12 + (int) (BAD - number) % -FAR;
        judge(what, number, place, making, call);
    }

    /** The call answers the number, and nothing is refused or changed. */
    static void unchanged(String what, long number, Making making, Call call) {
        judge(what, number, NONE, making, call);
    }

    /** The place is that of the refusals, as status tells them, of which there is one more then. */
    static void judge(String what, long number, int place, Making making, Call call) {
        UnexpectedBell x = making.make();
        due(what, call.on(x), number);
        UnexpectedBell untouched = making.make();
        for (int i = 12; i <= 16; i++) {
            due(what + ", refusals " + i, x.status(i), untouched.status(i) + (i == place ? 1 : 0));
        }
        for (Look look : LOOKS) {
            UnexpectedBell y = making.make();
            call.on(y);
            dueText(what, look.at(y), look.at(making.make()));
        }
    }

    private static void dueText(String what, String got, String want) {
        checks[promise]++;
        if (!got.equals(want)) {
            fail(what + "\n  left " + got + "\n  due  " + want);
        }
    }

    private static String standing(UnexpectedBell x) {
        StringBuilder all = new StringBuilder();
        for (int what = 0; what < 12; what++) {
            all.append(x.status(what)).append(' ');
        }
        for (int m = 0; m < x.status(0); m++) {
            all.append(x.morningOf(m, 0)).append(':').append(x.morningOf(m, 1)).append(' ');
        }
        for (int one = 0; one < x.status(1); one++) {
            all.append(x.personOf(one, 0)).append(':').append(x.personOf(one, 1)).append(' ');
        }
        return all.toString();
    }

    private static String shelves(UnexpectedBell x, int from, int to) {
        StringBuilder all = new StringBuilder();
        for (int s = from; s < to; s++) {
            all.append(x.holds(s)).append('[');
            for (int i = 0; i < 40; i++) {
                all.append(x.element(s, i)).append(' ');
            }
            all.append(']');
        }
        return all.toString();
    }

    static UnexpectedBell fresh() {
        return new UnexpectedBell();
    }

    static int read(UnexpectedBell x, String text) {
        for (int i = 0; i < text.length(); i++) {
            x.feed(text.charAt(i));
        }
        return x.school();
    }

    static UnexpectedBell made(String text) {
        UnexpectedBell x = fresh();
        if (read(x, text) < 0) {
            throw new IllegalStateException(text);
        }
        return x;
    }

    static void tell(UnexpectedBell x, int s, int sort, long... values) {
        x.row(s, sort, values.length);
        for (int i = 0; i < values.length; i++) {
            x.set(s, i, values[i]);
        }
    }

    /** A call told as it is written, such as "allow(0, true)". */
    static long ask(UnexpectedBell x, String call) {
        String name = call.substring(0, call.indexOf('('));
        String told = call.substring(call.indexOf('(') + 1, call.indexOf(')')).trim();
        String[] words = told.isEmpty() ? new String[0] : told.split(", *");
        for (Method method : UnexpectedBell.class.getDeclaredMethods()) {
            if (method.getName().equals(name) && method.getParameterCount() == words.length) {
                return answer(x, method, words);
            }
        }
        throw new IllegalStateException("no such call: " + call);
    }

    private static long answer(UnexpectedBell x, Method method, String[] words) {
        Object[] arguments = new Object[words.length];
        for (int i = 0; i < words.length; i++) {
            Class<?> type = method.getParameterTypes()[i];
            if (type == boolean.class) {
                arguments[i] = Boolean.valueOf(words[i]);
            } else if (type == long.class) {
                arguments[i] = Long.valueOf(words[i]);
            } else {
                arguments[i] = Integer.valueOf(words[i]);
            }
        }
        try {
            return ((Number) method.invoke(x, arguments)).longValue();
        } catch (ReflectiveOperationException e) {
            throw new IllegalStateException(method.getName(), e);
        }
    }

    /** The same object after some calls, whatever they answer. */
    static UnexpectedBell after(UnexpectedBell x, String... calls) {
        for (String call : calls) {
            ask(x, call);
        }
        return x;
    }

    /** Calls with the answer that is due, such as "say() = 2", one after the other. */
    static void runs(UnexpectedBell x, String... lines) {
        for (String line : lines) {
            String[] parts = line.split(" = ");
            due(line, ask(x, parts[0]), Long.parseLong(parts[1]));
        }
    }
}
