import java.lang.reflect.InvocationTargetException;
import java.lang.reflect.Method;
import java.lang.reflect.Parameter;
import java.util.ArrayList;
import java.util.Arrays;
import java.util.Comparator;
import java.util.List;
import java.util.Random;

/** Runs of calls by chance (of fixed seeds), each answer held against what PlainBell answers. */
public final class ModelTest {
    private static final int RUNS = 1500;
    private static final int CALLS = 512;
    private static final String[] WORDS = {"term", "never", "weight", "said", "person", "hint"};

    private final Random chance;
    private final UnexpectedBell bell = new UnexpectedBell();
    private final PlainBell plain = new PlainBell();
    private final List<String> told = new ArrayList<>();
    private static int answers = 0;

    private ModelTest(long seed) {
        chance = new Random(seed);
    }

    public static void main(String[] args) throws Exception {
        Method[] methods = UnexpectedBell.class.getDeclaredMethods();
        List<Method> calls = new ArrayList<>();
        for (Method method : methods) {
            if (java.lang.reflect.Modifier.isPublic(method.getModifiers())) {
                calls.add(method);
            }
        }
        calls.sort(Comparator.comparing(Method::getName));
        for (int run = 0; run < RUNS; run++) {
            String wrong = new ModelTest(run).run(calls);
            if (wrong != null) {
                System.out.println("run " + run + ": " + wrong);
                System.exit(1);
            }
        }
        System.out.println(answers + " answers are as PlainBell has them");
    }

    private String run(List<Method> calls) throws Exception {
        boolean isTame = chance.nextInt(3) > 0;
        for (int left = CALLS; left > 0; ) {
            int kind = chance.nextInt(100);
            if (kind < 2) {
                left -= readText();
            } else if (kind < 4) {
                left -= tellRow();
            } else {
                Method method = calls.get(chance.nextInt(calls.size()));
                boolean isRare = method.getName().equals("leave") || method.getName().equals("term")
                    || method.getName().equals("hint") || method.getName().equals("back");
                if (!isRare || chance.nextInt(4) == 0) {
                    call(method, argumentsFor(method, isTame));
                    left--;
                }
            }
            if (told.size() > 0 && told.get(told.size() - 1).endsWith("!")) {
                return String.join("\n", told);
            }
        }
        return null;
    }

    private void call(Method method, Object... arguments) throws Exception {
        Method twin = PlainBell.class.getDeclaredMethod(method.getName(), method.getParameterTypes());
        long got = ((Number) method.invoke(bell, arguments)).longValue();
        long due;
        try {
            due = ((Number) twin.invoke(plain, arguments)).longValue();
        } catch (InvocationTargetException e) {
            if (!(e.getCause() instanceof PlainBell.Refusal)) {
                throw e;
            }
            due = ((PlainBell.Refusal) e.getCause()).number;
            plain.refusals[(int) (-2 - due) % 10000000]++;
        }
        answers++;
        told.add(method.getName() + Arrays.toString(arguments) + " " + got
            + (got == due ? "" : ", due is " + due + "!"));
    }

    private void call(String name, Object... arguments) throws Exception {
        for (Method method : UnexpectedBell.class.getDeclaredMethods()) {
            if (method.getName().equals(name)) {
                call(method, arguments);
            }
        }
    }

    private Object[] argumentsFor(Method method, boolean isTame) {
        Parameter[] parameters = method.getParameters();
        Object[] arguments = new Object[parameters.length];
        for (int i = 0; i < parameters.length; i++) {
            if (parameters[i].getType() == boolean.class) {
                arguments[i] = chance.nextInt(3) > 0;
            } else {
                long v = number(method.getName(), parameters[i].getName(), isTame);
                arguments[i] = parameters[i].getType() == long.class ? (Object) v : (Object) (int) v;
            }
        }
        return arguments;
    }

    private long number(String call, String name, boolean isTame) {
        if (chance.nextInt(isTame ? 200 : 12) == 0) {
            long[] odd = {-1, -2, 9, 10, 40, 41, 250, 255, 256, 512, 127, 128, 65535,
                Integer.MAX_VALUE, Integer.MIN_VALUE, Long.MAX_VALUE, Long.MIN_VALUE, chance.nextLong()};
            return odd[chance.nextInt(odd.length)];
        }
        int people = Math.max(1, plain.now.people.size());
        switch (name) {
            case "s": case "p": case "q": return chance.nextInt(4);
            case "one": return chance.nextInt(call.equals("show") ? people + 1 : people) - (call.equals("show") ? 1 : 0);
            case "other": return chance.nextInt(people);
            case "kind": return chance.nextInt(6);
            case "sort": return chance.nextInt(5);
            case "m": return call.equals("best") ? chance.nextInt(plain.now.n + 1) - 1 : chance.nextInt(plain.now.n);
            case "a": return chance.nextInt(10);
            case "v": return call.equals("seed") ? chance.nextInt() : call.equals("set") ? told() : chance.nextInt(10);
            case "w": return 1 + chance.nextInt(chance.nextBoolean() ? 40 : 6);
            case "t": return 1 + chance.nextInt(chance.nextInt(4) == 0 ? 6 : 3);
            case "g": return chance.nextInt(9);
            case "set": return chance.nextInt(1 << plain.now.n) | chance.nextInt(1 << plain.now.n);
            case "letter": return chance.nextInt(256);
            case "what": return chance.nextInt(call.equals("status") ? 18 : call.endsWith("Of") ? 4 : 2);
            case "n": return countFor(call);
            default: return chance.nextInt(8);
        }
    }

    private int countFor(String call) {
        switch (call) {
            case "term": return 1 + chance.nextInt(9);
            case "book": return chance.nextInt(6);
            case "copy": return chance.nextInt(5);
            case "rules": case "rings": return 1 + chance.nextInt(5);
            default: return chance.nextInt(15);
        }
    }

    private long told() {
        switch (chance.nextInt(4)) {
            case 0: return 100L * chance.nextInt(plain.now.n) + chance.nextInt(42);
            case 1: return chance.nextInt(64);
            case 2: return chance.nextInt(plain.now.n);
            default: return chance.nextLong() >> chance.nextInt(64);
        }
    }

    /** A row with something in it that rules, judge or book can take. */
    private int tellRow() throws Exception {
        int n = plain.now.n;
        int s = chance.nextInt(3);
        call("row", s, chance.nextInt(5), n + chance.nextInt(2));
        int c = chance.nextInt(n);
        int k = chance.nextInt(n);
        int way = chance.nextInt(3);
        for (int i = 0; i < n; i++) {
            long v = way == 0 ? (c + k * i) % n : way == 1 ? plain.who(i) : 100L * i + 1 + chance.nextInt(40);
            call("set", s, i, way == 1 && chance.nextInt(8) == 0 ? chance.nextLong() : v);
        }
        call("rules", s, 1 + chance.nextInt(n), chance.nextInt(2));
        call("judge", s);
        call("unlike", s);
        call("book", s, chance.nextInt(6));
        return n + 5;
    }

    private int readText() throws Exception {
        StringBuilder text = new StringBuilder();
        int statements = 1 + chance.nextInt(5);
        for (int i = 0; i < statements; i++) {
            text.append(i > 0 ? blanks() + ";" + blanks() : blanks());
            String word = WORDS[chance.nextInt(WORDS.length)];
            text.append(word).append(blanks());
            int numbers = word.equals("weight") || word.equals("person") ? 2
                : word.equals("hint") ? 1 + chance.nextInt(5) : 1;
            for (int j = 0; j < numbers; j++) {
                String zero = chance.nextInt(12) == 0 ? "0" : "";
                text.append(j > 0 ? " " : "").append(zero).append(chance.nextInt(word.equals("person") && j == 0 ? 6 : 9));
            }
            text.append(blanks());
        }
        if (chance.nextInt(2) == 0) {
            spoil(text);
        }
        int length = Math.min(text.length(), 120);
        for (int i = 0; i < length; i++) {
            call("feed", (int) text.charAt(i));
        }
        call("school");
        return length + 1;
    }

    private String blanks() {
        return chance.nextInt(3) == 0 ? " " : "";
    }

    private void spoil(StringBuilder text) {
        int at = chance.nextInt(text.length());
        String letters = "azAZ09; ,\n\u0000\u00e9/:`{";
        char letter = letters.charAt(chance.nextInt(letters.length()));
        switch (chance.nextInt(3)) {
            case 0: text.setCharAt(at, letter); break;
            case 1: text.insert(at, letter); break;
            default: text.deleteCharAt(at); break;
        }
    }
}
