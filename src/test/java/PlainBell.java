import java.util.ArrayList;
import java.util.Arrays;
import java.util.HashSet;
import java.util.List;
import java.util.Set;
import java.util.TreeSet;
import java.util.regex.Matcher;
import java.util.regex.Pattern;

/**
 * The document's words once more, told with sets, lists and exceptions and with no eye to speed:
 * what ModelTest holds the class against. Nothing is shared with the class but the document.
 */
final class PlainBell {
    static final int NONE = -1;

    static final class Refusal extends RuntimeException {
        private static final long serialVersionUID = 1L;
        final int number;

        Refusal(int number) {
            this.number = number;
        }
    }

    static final class Somebody {
        int kind;
        int a;

        Somebody(int kind, int a) {
            this.kind = kind;
            this.a = a;
        }
    }

    static final class State {
        int n = 5;
        Set<Integer> allowed = new TreeSet<>(List.of(0, 1, 2, 3, 4));
        int[] weights = {1, 1, 1, 1, 1};
        int said = 1;
        List<Somebody> people = new ArrayList<>();
        int seed = 1;
        int terms;
        int faces;
        int failed;

        State twin() {
            State twin = new State();
            twin.n = n;
            twin.allowed = new TreeSet<>(allowed);
            twin.weights = weights.clone();
            twin.said = said;
            for (Somebody one : people) {
                twin.people.add(new Somebody(one.kind, one.a));
            }
            twin.seed = seed;
            twin.terms = terms;
            twin.faces = faces;
            twin.failed = failed;
            return twin;
        }

        void term(int count) {
            n = count;
            allowed = new TreeSet<>();
            weights = new int[count];
            for (int m = 0; m < count; m++) {
                allowed.add(m);
                weights[m] = 1;
            }
        }

        List<Integer> still(int m) {
            List<Integer> still = new ArrayList<>();
            for (int x : allowed) {
                if (x >= m) {
                    still.add(x);
                }
            }
            return still;
        }

        int sum(Iterable<Integer> mornings) {
            int sum = 0;
            for (int m : mornings) {
                sum += weights[m];
            }
            return sum;
        }

        int depth(Somebody one) {
            if (one.kind == 4) {
                int greatest = -1;
                for (Somebody other : people) {
                    if (other.kind != 4) {
                        greatest = Math.max(greatest, depth(other));
                    }
                }
                return greatest < 0 ? 0 : Math.min(said, greatest + 1);
            }
            return Math.min(one.a, said) + (one.kind == 3 ? 1 : 0);
        }

        List<Integer> can(Somebody one, int m) {
            List<Integer> thought = new ArrayList<>(allowed);
            int depth = depth(one);
            thought = depth >= thought.size() ? List.of() : thought.subList(0, thought.size() - depth);
            List<Integer> from = new ArrayList<>();
            for (int x : thought) {
                if (x >= m) {
                    from.add(x);
                }
            }
            return from;
        }

        boolean sleeps(Somebody one, int m) {
            return (one.kind == 1 || one.kind == 3) && m % (one.a % 3 + 2) == 0;
        }

        boolean expects(Somebody one, int m) {
            boolean asPupil = can(one, m).equals(List.of(m));
            boolean asBettor = allowed.contains(m) && weights[m] > 0
                && 10 * weights[m] >= one.a * sum(still(m));
            switch (one.kind) {
                case 2: return asBettor;
                case 5: return asBettor || asPupil;
                default: return asPupil && !sleeps(one, m);
            }
        }

        List<Integer> expected(Somebody one) {
            List<Integer> on = new ArrayList<>();
            for (int m = 0; m < n; m++) {
                if (expects(one, m)) {
                    on.add(m);
                }
            }
            return on;
        }

        Set<Integer> surprises() {
            Set<Integer> surprises = new TreeSet<>();
            for (int m : allowed) {
                if (people.stream().noneMatch(one -> expects(one, m))) {
                    surprises.add(m);
                }
            }
            return surprises;
        }

        int caughtWeights() {
            Set<Integer> caught = new TreeSet<>(allowed);
            caught.removeAll(surprises());
            return sum(caught);
        }
    }

    State now = new State();
    State kept;
    StringBuilder tape = new StringBuilder();
    // null, an Integer (somebody), or an array of the row's sort.
    Object[] shelves = new Object[8];
    int[] refusals = new int[5];

    static void need(boolean is, int number) {
        if (!is) {
            throw new Refusal(number);
        }
    }

    static boolean within(long v, long least, long most) {
        return least <= v && v <= most;
    }

    static int bits(Iterable<Integer> set) {
        int bits = 0;
        for (int x : set) {
            bits |= 1 << x;
        }
        return bits;
    }

    static Set<Integer> unbits(int bits) {
        Set<Integer> set = new TreeSet<>();
        for (int x = 0; x < 32; x++) {
            if ((bits >>> x & 1) == 1) {
                set.add(x);
            }
        }
        return set;
    }

    boolean morning(int m) {
        return within(m, 0, now.n - 1);
    }

    boolean somebody(int one) {
        return within(one, 0, now.people.size() - 1);
    }

    Somebody get(int one) {
        return now.people.get(one);
    }

    boolean shelf(int s) {
        return within(s, 0, 7);
    }

    static int sortOf(Object held) {
        if (held instanceof byte[]) {
            return 0;
        }
        if (held instanceof short[]) {
            return 1;
        }
        if (held instanceof int[]) {
            return 2;
        }
        return held instanceof long[] ? 3 : 4;
    }

    static long[] longs(Object row) {
        int n = java.lang.reflect.Array.getLength(row);
        long[] longs = new long[n];
        for (int i = 0; i < n; i++) {
            longs[i] = row instanceof boolean[] ? (((boolean[]) row)[i] ? 1 : 0)
                : java.lang.reflect.Array.getLong(row, i);
        }
        return longs;
    }

    long[] needRow(int s) {
        need(shelf(s), -2);
        need(!(shelves[s] instanceof Integer), -3);
        need(shelves[s] != null, -4);
        return longs(shelves[s]);
    }

    public int row(int s, int sort, int n) {
        need(shelf(s) && within(sort, 0, 4) && within(n, 0, 40), -2);
        Object[] made = {new byte[n], new short[n], new int[n], new long[n], new boolean[n]};
        shelves[s] = made[sort];
        return 1;
    }

    public int set(int s, int i, long v) {
        long[] row = needRow(s);
        need(within(i, 0, row.length - 1), -2);
        switch (sortOf(shelves[s])) {
            case 0: ((byte[]) shelves[s])[i] = (byte) v; break;
            case 1: ((short[]) shelves[s])[i] = (short) v; break;
            case 2: ((int[]) shelves[s])[i] = (int) v; break;
            case 3: ((long[]) shelves[s])[i] = v; break;
            default: ((boolean[]) shelves[s])[i] = v != 0; break;
        }
        return 1;
    }

    public int copy(int p, int q, int i, int j, int n) {
        need(shelf(p) && shelf(q), -2);
        need(!(shelves[p] instanceof Integer) && !(shelves[q] instanceof Integer), -3);
        need(shelves[p] == null || shelves[q] == null || sortOf(shelves[p]) == sortOf(shelves[q]), -3);
        need(shelves[p] != null && shelves[q] != null, -4);
        try {
            System.arraycopy(shelves[p], i, shelves[q], j, n);
        } catch (IndexOutOfBoundsException e) {
            throw new Refusal(-2);
        }
        return n;
    }

    public long element(int s, int i) {
        if (!shelf(s) || shelves[s] == null || shelves[s] instanceof Integer) {
            return 0;
        }
        long[] row = longs(shelves[s]);
        return within(i, 0, row.length - 1) ? row[i] : 0;
    }

    public int holds(int s) {
        if (!shelf(s) || shelves[s] == null) {
            return NONE;
        }
        return shelves[s] instanceof Integer ? 10 + (Integer) shelves[s] : sortOf(shelves[s]);
    }

    public int show(int s, int one) {
        need(shelf(s) && (one == NONE || somebody(one)), -2);
        shelves[s] = one == NONE ? null : (Object) one;
        return 1;
    }

    public int says(int s, int kind) {
        need(shelf(s) && within(kind, 0, 5), -2);
        if (shelves[s] == null) {
            throw new Refusal(-4);
        }
        need(shelves[s] instanceof Integer, -3);
        Somebody one = get((Integer) shelves[s]);
        String[] chains = {"0", "10", "20", "310", "40", "520"};
        need(chains[one.kind].contains("" + kind), -3);
        List<Integer> on = now.expected(one);
        switch (kind) {
            case 0: return on.isEmpty() ? NONE : on.get(0);
            case 1:
                int asleep = 0;
                for (int m = 0; m < now.n; m++) {
                    asleep += now.sleeps(one, m) ? 1 : 0;
                }
                return asleep;
            case 2: return on.size();
            case 5: return !now.allowed.isEmpty() && on.contains(ends()) ? 1 : 0;
            default: return now.depth(one);
        }
    }

    public int term(int n) {
        need(within(n, 1, 9), -2);
        int was = now.n;
        now.term(n);
        return was;
    }

    public int person(int kind, int a) {
        need(within(kind, 0, 5) && within(a, 0, 9), -2);
        need(now.people.size() < 6, -6);
        now.people.add(new Somebody(kind, a));
        return now.people.size() - 1;
    }

    public int allow(int m, boolean is) {
        need(morning(m), -2);
        return (is ? now.allowed.add(m) : now.allowed.remove(m)) ? 1 : 0;
    }

    public int weight(int m, int v) {
        need(morning(m) && within(v, 0, 9), -2);
        int was = now.weights[m];
        now.weights[m] = v;
        return was;
    }

    public int say() {
        need(now.said < 9, -6);
        return ++now.said;
    }

    public int unsay(int v) {
        need(within(v, 0, 9), -2);
        int was = now.said;
        now.said = v;
        return was;
    }

    public int hint(int set) {
        for (int m : unbits(set)) {
            need(morning(m), -2);
        }
        now.allowed.retainAll(unbits(set));
        return now.allowed.size();
    }

    public int feed(int letter) {
        need(within(letter, 0, 255), -2);
        need(tape.length() < 250, -6);
        tape.append((char) letter);
        return tape.length();
    }

    public int wipe() {
        int was = tape.length();
        tape.setLength(0);
        return was;
    }

    static final class Fault extends RuntimeException {
        private static final long serialVersionUID = 1L;
        final int place;

        Fault(int place) {
            this.place = place;
        }
    }

    static final class Token {
        final String text;
        final int place;

        Token(String text, int place) {
            this.text = text;
            this.place = place;
        }
    }

    List<Token> tokens = new ArrayList<>();
    int next;

    Token token() {
        return next < tokens.size() ? tokens.get(next) : new Token("", tape.length());
    }

    int number(int least, int most) {
        Token t = token();
        if (!t.text.matches("[0-9]{1,2}") || !within(Integer.parseInt(t.text), least, most)) {
            throw new Fault(t.place);
        }
        next++;
        return Integer.parseInt(t.text);
    }

    void statement(State state) {
        Token word = token();
        next++;
        switch (word.text) {
            case "term": state.term(number(1, 9)); break;
            case "never": state.allowed.remove(number(0, state.n - 1)); break;
            case "weight":
                int m = number(0, state.n - 1);
                state.weights[m] = number(0, 9);
                break;
            case "said": state.said = number(0, 9); break;
            case "person":
                if (state.people.size() == 6) {
                    throw new Fault(word.place);
                }
                int kind = number(0, 5);
                state.people.add(new Somebody(kind, number(0, 9)));
                break;
            case "hint":
                Set<Integer> told = new HashSet<>();
                do {
                    int place = token().place;
                    if (!told.add(number(0, state.n - 1))) {
                        throw new Fault(place);
                    }
                } while (token().text.matches("[0-9]+"));
                state.allowed.retainAll(told);
                break;
            default: throw new Fault(word.place);
        }
    }

    public int school() {
        tokens.clear();
        next = 0;
        Matcher matcher = Pattern.compile("[a-z]+|[0-9]+|[^ ]", Pattern.DOTALL).matcher(tape);
        while (matcher.find()) {
            tokens.add(new Token(matcher.group(), matcher.start()));
        }
        State state = now.twin();
        int statements = 0;
        try {
            do {
                statement(state);
                statements++;
                if (next < tokens.size() && !token().text.equals(";")) {
                    throw new Fault(token().place);
                }
            } while (next++ < tokens.size());
        } catch (Fault fault) {
            tape.setLength(0);
            refusals[0]++;
            return -20 - fault.place;
        }
        tape.setLength(0);
        now = state;
        return statements;
    }

    public int personOf(int one, int what) {
        need(somebody(one) && within(what, 0, 3), -2);
        int[] all = {get(one).kind, get(one).a, now.depth(get(one)), bits(now.expected(get(one)))};
        return all[what];
    }

    public int morningOf(int m, int what) {
        need(morning(m) && within(what, 0, 3), -2);
        int[] all = {now.allowed.contains(m) ? 1 : 0, now.weights[m], bits(now.still(m)), now.sum(now.still(m))};
        return all[what];
    }

    public int can(int one, int m) {
        need(somebody(one) && morning(m), -2);
        return bits(now.can(get(one), m));
    }

    public int expects(int one, int m) {
        need(somebody(one) && morning(m), -2);
        return now.expects(get(one), m) ? 1 : 0;
    }

    public int who(int m) {
        need(morning(m), -2);
        int who = 0;
        for (int one = 0; one < now.people.size(); one++) {
            who += now.expects(get(one), m) ? 1 << one : 0;
        }
        return who;
    }

    public int first(int one) {
        need(somebody(one), -2);
        List<Integer> on = now.expected(get(one));
        return on.isEmpty() ? NONE : on.get(0);
    }

    public int lasts(int one) {
        need(somebody(one), -2);
        List<Integer> can = now.can(get(one), 0);
        return can.isEmpty() ? NONE : can.get(can.size() - 1);
    }

    public int ends() {
        return now.allowed.stream().max(Integer::compare).orElse(NONE);
    }

    public int agree(int m) {
        need(morning(m), -2);
        int ordered = 0;
        for (Somebody one : now.people) {
            for (Somebody other : now.people) {
                ordered += one != other && now.can(one, m).equals(now.can(other, m)) ? 1 : 0;
            }
        }
        return ordered / 2;
    }

    public int surprises() {
        return bits(now.surprises());
    }

    public int odds(int m) {
        need(morning(m), -2);
        need(now.sum(now.still(m)) > 0, -5);
        int weight = now.allowed.contains(m) ? now.weights[m] : 0;
        return (int) (1_000_000L * weight / now.sum(now.still(m)));
    }

    public int likeliest() {
        int best = NONE;
        for (int m = now.n - 1; m >= 0; m--) {
            if (now.sum(now.still(m)) > 0 && (best == NONE || odds(m) >= odds(best))) {
                best = m;
            }
        }
        need(best != NONE, -5);
        return best;
    }

    public int caught() {
        need(now.sum(now.allowed) > 0, -5);
        return (int) (1_000_000L * now.caughtWeights() / now.sum(now.allowed));
    }

    private static void rows(State state, int m, int left, List<int[]> all) {
        if (m == state.n) {
            if (left == 0) {
                all.add(state.weights.clone());
            }
            return;
        }
        for (int w = 0; w <= (state.allowed.contains(m) ? left : 0); w++) {
            state.weights[m] = w;
            rows(state, m + 1, left - w, all);
        }
    }

    public int best(int t, int m) {
        need(within(t, 1, 6) && (m == NONE || morning(m)), -2);
        need(!now.allowed.isEmpty(), -5);
        State state = now.twin();
        List<int[]> all = new ArrayList<>();
        rows(state, 0, t, all);
        int least = Integer.MAX_VALUE;
        int[] best = null;
        for (int[] row : all) {
            state.weights = row;
            int caught = state.caughtWeights();
            if (caught < least || (caught == least && Arrays.compare(row, best) < 0)) {
                least = caught;
                best = row;
            }
        }
        return m == NONE ? least : best[m];
    }

    private int gained(int m, int w, int all) {
        int weight = now.allowed.contains(m) ? now.weights[m] : 0;
        return (int) (1_000_000L * weight * w / all) - 1_000_000;
    }

    public int gain(int m, int w) {
        need(morning(m) && within(w, 1, 40), -10000002);
        need(now.sum(now.still(m)) > 0, -10000005);
        return gained(m, w, now.sum(now.still(m)));
    }

    public int bet(int w) {
        need(within(w, 1, 40), -2);
        for (int m : now.allowed) {
            int all = now.sum(now.still(m));
            if (all > 0 && gained(m, w, all) >= 0) {
                return m;
            }
        }
        return NONE;
    }

    public int will() {
        State state = now.twin();
        for (state.said = 0; state.said < 10; state.said++) {
            if (state.surprises().isEmpty()) {
                return state.said;
            }
        }
        return NONE;
    }

    private int more(int one) {
        State state = now.twin();
        state.people.remove(one);
        return state.surprises().size() - now.surprises().size();
    }

    public int spoils(int one) {
        need(somebody(one), -10000002);
        return more(one);
    }

    public int spoiler() {
        need(!now.people.isEmpty(), -5);
        int best = now.people.size() - 1;
        for (int one = best; one >= 0; one--) {
            best = more(one) >= more(best) ? one : best;
        }
        return best;
    }

    public int deeper(int one, int m) {
        need(somebody(one) && morning(m), -2);
        State state = now.twin();
        Somebody changed = state.people.get(one);
        for (changed.a = 0; changed.a < 10; changed.a++) {
            if (state.expects(changed, m)) {
                return changed.a;
            }
        }
        return NONE;
    }

    private boolean foreseesIt(Somebody one, Somebody other) {
        return other.kind != 2 && other.kind != 5 && now.depth(one) > now.depth(other);
    }

    public int foresees(int one, int other) {
        need(somebody(one) && somebody(other) && one != other, -2);
        return foreseesIt(get(one), get(other)) ? 1 : 0;
    }

    public int foreseen(int one) {
        need(somebody(one), -2);
        int set = 0;
        for (int other = 0; other < now.people.size(); other++) {
            set |= foreseesIt(get(other), get(one)) ? 1 << other : 0;
        }
        return set;
    }

    public int deepest() {
        need(!now.people.isEmpty(), -5);
        int best = now.people.size() - 1;
        for (int one = best; one >= 0; one--) {
            best = now.depth(get(one)) >= now.depth(get(best)) ? one : best;
        }
        return best;
    }

    public int asleep(int m) {
        need(morning(m), -2);
        int set = 0;
        for (int one = 0; one < now.people.size(); one++) {
            set |= now.sleeps(get(one), m) ? 1 << one : 0;
        }
        return set;
    }

    public int crowd(int kind) {
        need(within(kind, 0, 5), -2);
        State state = now.twin();
        state.people.forEach(one -> one.kind = kind);
        return bits(state.surprises());
    }

    public int level(int m) {
        need(morning(m), -2);
        State state = now.twin();
        for (state.said = 0; state.said < 10; state.said++) {
            if (!state.surprises().contains(m)) {
                return state.said;
            }
        }
        return NONE;
    }

    public int longest() {
        Set<Integer> set = now.surprises();
        int most = 0;
        for (int from = 0; from < now.n; from++) {
            int to = from;
            while (set.contains(to)) {
                to++;
            }
            most = Math.max(most, to - from);
        }
        return most;
    }

    public int leave() {
        need(!now.people.isEmpty(), -5);
        now.people.remove(now.people.size() - 1);
        clearShelves();
        return now.people.size();
    }

    private void clearShelves() {
        for (int s = 0; s < 8; s++) {
            if (shelves[s] instanceof Integer && !somebody((Integer) shelves[s])) {
                shelves[s] = null;
            }
        }
    }

    public int by(int m) {
        need(morning(m), -2);
        need(now.sum(now.allowed) > 0, -5);
        int sum = 0;
        for (int x : now.allowed) {
            sum += x <= m ? now.weights[x] : 0;
        }
        return (int) (1_000_000L * sum / now.sum(now.allowed));
    }

    public int mean() {
        need(now.sum(now.allowed) > 0, -5);
        int sum = 0;
        for (int x : now.allowed) {
            sum += x * now.weights[x];
        }
        return 1000 * sum / now.sum(now.allowed);
    }

    public int fair(int m) {
        need(morning(m), -2);
        int all = now.sum(now.still(m));
        for (int w = 1; w <= 40 && all > 0; w++) {
            if (gained(m, w, all) >= 0) {
                return w;
            }
        }
        return NONE;
    }

    public int book(int s, int n) {
        need(within(n, 0, 5), -10000002);
        long[] row;
        try {
            row = needRow(s);
        } catch (Refusal refusal) {
            throw new Refusal(-10000000 + refusal.number);
        }
        need(row.length >= n, -10000002);
        for (int i = 0; i < n; i++) {
            need(within(row[i], 0, 100L * now.n - 1) && within(row[i] % 100, 1, 40), -10000002);
        }
        need(now.sum(now.allowed) > 0, -10000005);
        int sum = 0;
        for (int i = 0; i < n; i++) {
            sum += gained((int) row[i] / 100, (int) row[i] % 100, now.sum(now.allowed));
        }
        return sum;
    }

    public int second(int m, int g) {
        need(morning(m) && within(g, 0, 8), -2);
        Set<Integer> set = new TreeSet<>(now.allowed);
        set.removeIf(x -> x + g <= m);
        return bits(set);
    }

    public int hints(int what) {
        need(within(what, 0, 1), -2);
        State state = now.twin();
        List<int[]> all = new ArrayList<>();
        for (int set = 0; set < 512; set++) {
            if (now.allowed.containsAll(unbits(set))) {
                state.allowed = unbits(set);
                all.add(new int[] {-state.surprises().size(), state.allowed.size(), set});
            }
        }
        all.sort(Arrays::compare);
        return what == 0 ? all.get(0)[2] : -all.get(0)[0];
    }

    public int rules(int s, int n, int what) {
        need(shelf(s) && within(n, 1, 40) && within(what, 0, 1), -2);
        long[] row = needRow(s);
        need(row.length >= n, -2);
        for (int i = 0; i < n; i++) {
            need(within(row[i], 0, now.n - 1), -2);
        }
        int count = 0;
        Set<Integer> next = new TreeSet<>();
        for (int c = 0; c < now.n; c++) {
            for (int k = 0; k < now.n; k++) {
                int at = c;
                boolean is = true;
                for (int i = 0; i < n; i++) {
                    is &= row[i] == at;
                    at = (at + k) % now.n;
                }
                count += is ? 1 : 0;
                if (is) {
                    next.add(at);
                }
            }
        }
        return what == 0 ? count : bits(next);
    }

    private int wrong(long told, int m) {
        int wrong = 0;
        for (int one = 0; one < now.people.size(); one++) {
            wrong += (told >> one & 1) != (now.expects(get(one), m) ? 1 : 0) ? 1 : 0;
        }
        return wrong;
    }

    public int judge(int s) {
        long[] row = needRow(s);
        need(row.length >= now.n, -2);
        for (int m = 0; m < now.n; m++) {
            if (wrong(row[m], m) > 0) {
                return m;
            }
        }
        return NONE;
    }

    public int unlike(int s) {
        long[] row = needRow(s);
        need(row.length >= now.n, -2);
        int times = 0;
        for (int m = 0; m < now.n; m++) {
            times += wrong(row[m], m);
        }
        return times;
    }

    public int ring() {
        need(now.sum(now.allowed) > 0, -5);
        List<Integer> lots = new ArrayList<>();
        for (int m : now.allowed) {
            for (int i = 0; i < now.weights[m]; i++) {
                lots.add(m);
            }
        }
        now.seed = now.seed * 1103515245 + 12345;
        int m = lots.get((now.seed >> 16 & 0xffff) % lots.size());
        long expecting = now.people.stream().filter(one -> now.expects(one, m)).count();
        now.faces += now.people.size() - (int) expecting;
        now.failed += expecting > 0 ? 1 : 0;
        now.terms++;
        return m;
    }

    public int rings(int n) {
        need(within(n, 1, 40), -2);
        need(now.sum(now.allowed) > 0, -5);
        int was = now.failed;
        for (int i = 0; i < n; i++) {
            ring();
        }
        return now.failed - was;
    }

    public int learn(int one, int v) {
        need(somebody(one) && within(v, 0, 9), -2);
        int was = get(one).a;
        get(one).a = v;
        return was;
    }

    public int seed(int v) {
        int was = now.seed;
        now.seed = v;
        return was;
    }

    public int image() {
        kept = now.twin();
        return 1;
    }

    public int back() {
        need(kept != null, -5);
        now = kept.twin();
        clearShelves();
        return 1;
    }

    public int status(int what) {
        if (within(what, 12, 16)) {
            return refusals[what - 12];
        }
        int full = 0;
        for (Object held : shelves) {
            full += held != null ? 1 : 0;
        }
        int[] all = {now.n, now.people.size(), now.said, bits(now.allowed), now.sum(now.allowed), now.terms,
            now.faces, now.failed, tape.length(), now.seed, full, surprises()};
        return within(what, 0, 11) ? all[what] : NONE;
    }
}
