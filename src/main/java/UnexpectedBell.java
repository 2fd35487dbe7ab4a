/**
 * Mornings of a term on which a bell may ring, the people who reason about it, and what comes of it.
 *
 * <p>../shared/DOC.md tells what each call answers. Sets of mornings and of people are bits of an int.
 */
public final class UnexpectedBell {
    public static final int NONE = -1;

    private static final int BAD = -2;
    private static final int OTHER = -3;
    private static final int NOTHING = -4;
    private static final int STUCK = -5;
    private static final int FULL = -6;
    private static final int NO_REFUSAL = 0;
    private static final int REFUSAL_NUMBERS = 5;
    // Answers that may be below 0 never come near this, so a refusal is not taken for one of them.
    private static final int FAR_BELOW = -10000000;
    private static final int FAULTS_FROM = -20;

    private static final int PUPIL = 0;
    private static final int SLEEPER = 1;
    private static final int BETTOR = 2;
    private static final int USHER = 3;
    private static final int WISE = 4;
    private static final int SURE = 5;
    private static final int[] KIND_ABOVE = {NONE, PUPIL, PUPIL, SLEEPER, PUPIL, BETTOR};

    private static final int BYTES = 0;
    private static final int SHORTS = 1;
    private static final int INTS = 2;
    private static final int BOOLEANS = 4;
    private static final int SORTS = 5;
    private static final int SOMEBODY = 10;

    private static final int MOST_MORNINGS = 9;
    private static final int FIRST_MORNINGS = 5;
    private static final int MOST_PEOPLE = 6;
    private static final int MOST_REASONS = 9;
    private static final int MOST_WEIGHT = 9;
    private static final int MOST_SAID = 9;
    private static final int MOST_BEHIND = 8;
    private static final int MOST_TOGETHER = 6;
    private static final int MOST_COIN = 40;
    private static final int MOST_WAGERS = 5;
    private static final int MOST_TERMS = 40;
    private static final int MOST_ELEMENTS = 40;
    private static final int MOST_LETTERS = 250;
    private static final int MOST_LETTER = 255;
    private static final int SHELVES = 8;
    // Far above the 3003 rows in which nine mornings can share six.
    private static final int MOST_ROWS = 100000;
    private static final int MILLION = 1000000;
    private static final int THOUSAND = 1000;

    private final School now = new School();
    // What-ifs are worked out here, so that nothing real changes and no call makes an object.
    private final School thought = new School();
    private final School kept = new School();
    private boolean isKept;
    private final Tape tape = new Tape();
    private final Shelf[] shelves = new Shelf[SHELVES];
    private final int[] refusals = new int[REFUSAL_NUMBERS];
    private final int[] bestRow = new int[MOST_MORNINGS];

    public UnexpectedBell() {
        for (int s = 0; s < SHELVES; s++) {
            shelves[s] = new Shelf();
        }
    }

    // Shelves and rows.

    public int row(int s, int sort, int n) {
        if (!isShelf(s) || !isWithin(sort, 0, SORTS - 1) || !isWithin(n, 0, MOST_ELEMENTS)) {
            return refuse(BAD);
        }
        shelves[s].holdRow(sort, n);
        return 1;
    }

    public int set(int s, int i, long v) {
        int refusal = rowRefusal(s);
        if (refusal != NO_REFUSAL) {
            return refuse(refusal);
        }
        if (!shelves[s].hasElement(i)) {
            return refuse(BAD);
        }
        shelves[s].put(i, v);
        return 1;
    }

    public int copy(int p, int q, int i, int j, int n) {
        if (!isShelf(p) || !isShelf(q)) {
            return refuse(BAD);
        }
        Shelf from = shelves[p];
        Shelf to = shelves[q];
        if (from.holdsSomebody() || to.holdsSomebody()) {
            return refuse(OTHER);
        }
        if (from.holdsRow() && to.holdsRow() && from.content != to.content) {
            return refuse(OTHER);
        }
        if (!from.holdsRow() || !to.holdsRow()) {
            return refuse(NOTHING);
        }
        if (!from.hasElements(i, n) || !to.hasElements(j, n)) {
            return refuse(BAD);
        }
        System.arraycopy(from.values, i, to.values, j, n);
        return n;
    }

    public long element(int s, int i) {
        if (!isShelf(s) || !shelves[s].holdsRow() || !shelves[s].hasElement(i)) {
            return 0;
        }
        return shelves[s].values[i];
    }

    public int holds(int s) {
        return isShelf(s) ? shelves[s].content : NONE;
    }

    public int show(int s, int one) {
        if (!isShelf(s) || (one != NONE && !now.isSomebody(one))) {
            return refuse(BAD);
        }
        if (one == NONE) {
            shelves[s].holdNothing();
        } else {
            shelves[s].holdSomebody(one);
        }
        return 1;
    }

    public int says(int s, int kind) {
        if (!isShelf(s) || !isKind(kind)) {
            return refuse(BAD);
        }
        Shelf shelf = shelves[s];
        if (shelf.holdsRow()) {
            return refuse(OTHER);
        }
        if (!shelf.holdsSomebody()) {
            return refuse(NOTHING);
        }
        int one = shelf.content - SOMEBODY;
        if (!now.isSomebody(one) || !isOfKind(now.kinds[one], kind)) {
            return refuse(OTHER);
        }
        return saidAs(one, kind);
    }

    // The school as it stands.

    public int term(int n) {
        if (!isWithin(n, 1, MOST_MORNINGS)) {
            return refuse(BAD);
        }
        int ahead = now.mornings;
        now.beginTerm(n);
        return ahead;
    }

    public int person(int kind, int a) {
        if (!isKind(kind) || !isWithin(a, 0, MOST_REASONS)) {
            return refuse(BAD);
        }
        if (now.people >= MOST_PEOPLE) {
            return refuse(FULL);
        }
        now.addSomebody(kind, a);
        return now.people - 1;
    }

    public int allow(int m, boolean is) {
        if (!now.isMorning(m)) {
            return refuse(BAD);
        }
        if (now.isAllowed(m) == is) {
            return 0;
        }
        now.allowed = now.allowed ^ (1 << m);
        return 1;
    }

    public int weight(int m, int v) {
        if (!now.isMorning(m) || !isWithin(v, 0, MOST_WEIGHT)) {
            return refuse(BAD);
        }
        int ahead = now.weights[m];
        now.weights[m] = v;
        return ahead;
    }

    public int say() {
        if (now.said >= MOST_SAID) {
            return refuse(FULL);
        }
        now.said++;
        return now.said;
    }

    public int unsay(int v) {
        if (!isWithin(v, 0, MOST_SAID)) {
            return refuse(BAD);
        }
        int ahead = now.said;
        now.said = v;
        return ahead;
    }

    public int hint(int set) {
        if ((set & ~now.allMornings()) != 0) {
            return refuse(BAD);
        }
        now.allowed = now.allowed & set;
        return Integer.bitCount(now.allowed);
    }

    public int learn(int one, int v) {
        if (!now.isSomebody(one) || !isWithin(v, 0, MOST_REASONS)) {
            return refuse(BAD);
        }
        int ahead = now.reasons[one];
        now.reasons[one] = v;
        return ahead;
    }

    public int leave() {
        if (now.people == 0) {
            return refuse(STUCK);
        }
        now.removeSomebody(now.people - 1);
        forgetWhoIsGone();
        return now.people;
    }

    public int seed(int v) {
        int ahead = now.seedling;
        now.seedling = v;
        return ahead;
    }

    public int image() {
        kept.become(now);
        isKept = true;
        return 1;
    }

    public int back() {
        if (!isKept) {
            return refuse(STUCK);
        }
        now.become(kept);
        forgetWhoIsGone();
        return 1;
    }

    // The tape.

    public int feed(int letter) {
        if (!isWithin(letter, 0, MOST_LETTER)) {
            return refuse(BAD);
        }
        if (tape.size >= MOST_LETTERS) {
            return refuse(FULL);
        }
        tape.append(letter);
        return tape.size;
    }

    public int wipe() {
        int ahead = tape.size;
        tape.size = 0;
        return ahead;
    }

    public int school() {
        thought.become(now);
        int statements = tape.readInto(thought);
        tape.size = 0;
        if (statements == NONE) {
            refuse(BAD);
            return FAULTS_FROM - tape.start;
        }
        now.become(thought);
        return statements;
    }

    // What can be seen of people and mornings.

    public int personOf(int one, int what) {
        if (!now.isSomebody(one)) {
            return refuse(BAD);
        }
        switch (what) {
            case 0: return now.kinds[one];
            case 1: return now.reasons[one];
            case 2: return now.depthOf(one);
            case 3: return now.expectedBy(one);
            default: return refuse(BAD);
        }
    }

    public int morningOf(int m, int what) {
        if (!now.isMorning(m)) {
            return refuse(BAD);
        }
        switch (what) {
            case 0: return now.isAllowed(m) ? 1 : 0;
            case 1: return now.weights[m];
            case 2: return now.stillOn(m);
            case 3: return now.weightsOf(now.stillOn(m));
            default: return refuse(BAD);
        }
    }

    public int can(int one, int m) {
        if (!now.isSomebody(one) || !now.isMorning(m)) {
            return refuse(BAD);
        }
        return now.canThink(one, m);
    }

    public int expects(int one, int m) {
        if (!now.isSomebody(one) || !now.isMorning(m)) {
            return refuse(BAD);
        }
        return isIn(now.expectedBy(one), m) ? 1 : 0;
    }

    public int who(int m) {
        return now.isMorning(m) ? now.expectingOn(m) : refuse(BAD);
    }

    public int first(int one) {
        return now.isSomebody(one) ? firstOf(now.expectedBy(one)) : refuse(BAD);
    }

    public int lasts(int one) {
        return now.isSomebody(one) ? lastOf(now.canThink(one, 0)) : refuse(BAD);
    }

    public int ends() {
        return lastOf(now.allowed);
    }

    public int agree(int m) {
        if (!now.isMorning(m)) {
            return refuse(BAD);
        }
        int pairs = 0;
        for (int one = 0; one < now.people; one++) {
            for (int other = one + 1; other < now.people; other++) {
                if (now.canThink(one, m) == now.canThink(other, m)) {
                    pairs++;
                }
            }
        }
        return pairs;
    }

    public int foresees(int one, int other) {
        if (!now.isSomebody(one) || !now.isSomebody(other) || one == other) {
            return refuse(BAD);
        }
        return now.canForesee(one, other) ? 1 : 0;
    }

    public int foreseen(int one) {
        if (!now.isSomebody(one)) {
            return refuse(BAD);
        }
        int set = 0;
        for (int other = 0; other < now.people; other++) {
            if (other != one && now.canForesee(other, one)) {
                set |= 1 << other;
            }
        }
        return set;
    }

    public int deepest() {
        if (now.people == 0) {
            return refuse(STUCK);
        }
        int found = 0;
        for (int one = 1; one < now.people; one++) {
            if (now.depthOf(one) > now.depthOf(found)) {
                found = one;
            }
        }
        return found;
    }

    public int asleep(int m) {
        if (!now.isMorning(m)) {
            return refuse(BAD);
        }
        int set = 0;
        for (int one = 0; one < now.people; one++) {
            if (now.sleepsOn(one, m)) {
                set |= 1 << one;
            }
        }
        return set;
    }

    public int surprises() {
        return now.bySurprise();
    }

    public int longest() {
        int most = 0;
        int length = 0;
        int surprising = now.bySurprise();
        for (int m = 0; m < now.mornings; m++) {
            length = isIn(surprising, m) ? length + 1 : 0;
            most = Math.max(most, length);
        }
        return most;
    }

    // Lots and wagers.

    public int odds(int m) {
        if (!now.isMorning(m)) {
            return refuse(BAD);
        }
        return now.weightsOf(now.stillOn(m)) == 0 ? refuse(STUCK) : now.oddsOn(m);
    }

    public int likeliest() {
        int found = NONE;
        int most = NONE;
        for (int m = 0; m < now.mornings; m++) {
            if (now.oddsOn(m) > most) {
                most = now.oddsOn(m);
                found = m;
            }
        }
        return found == NONE ? refuse(STUCK) : found;
    }

    public int caught() {
        int all = now.weightsOf(now.allowed);
        if (all == 0) {
            return refuse(STUCK);
        }
        return shareOf(now.weightsOf(now.allowed & ~now.bySurprise()), all);
    }

    public int by(int m) {
        if (!now.isMorning(m)) {
            return refuse(BAD);
        }
        int all = now.weightsOf(now.allowed);
        if (all == 0) {
            return refuse(STUCK);
        }
        int later = now.stillOn(m) & ~(1 << m);
        return shareOf(now.weightsOf(now.allowed & ~later), all);
    }

    public int mean() {
        int all = now.weightsOf(now.allowed);
        if (all == 0) {
            return refuse(STUCK);
        }
        int together = 0;
        for (int m = 0; m < now.mornings; m++) {
            together += m * now.lotsOf(m);
        }
        return THOUSAND * together / all;
    }

    public int gain(int m, int w) {
        if (!now.isMorning(m) || !isCoin(w)) {
            return refuseFarBelow(BAD);
        }
        int all = now.weightsOf(now.stillOn(m));
        return all == 0 ? refuseFarBelow(STUCK) : wagered(now.lotsOf(m), w, all);
    }

    public int bet(int w) {
        if (!isCoin(w)) {
            return refuse(BAD);
        }
        for (int m = 0; m < now.mornings; m++) {
            if (now.isAllowed(m) && isNoLoss(m, w)) {
                return m;
            }
        }
        return NONE;
    }

    public int fair(int m) {
        if (!now.isMorning(m)) {
            return refuse(BAD);
        }
        for (int w = 1; w <= MOST_COIN; w++) {
            if (isNoLoss(m, w)) {
                return w;
            }
        }
        return NONE;
    }

    public int book(int s, int n) {
        if (!isWithin(n, 0, MOST_WAGERS)) {
            return refuseFarBelow(BAD);
        }
        int refusal = rowRefusal(s);
        if (refusal != NO_REFUSAL) {
            return refuseFarBelow(refusal);
        }
        if (!areWagers(shelves[s], n)) {
            return refuseFarBelow(BAD);
        }
        int all = now.weightsOf(now.allowed);
        if (all == 0) {
            return refuseFarBelow(STUCK);
        }
        int together = 0;
        for (int i = 0; i < n; i++) {
            int told = (int) shelves[s].values[i];
            together += wagered(now.lotsOf(told / 100), told % 100, all);
        }
        return together;
    }

    // What would come of it.

    public int best(int t, int m) {
        if (!isWithin(t, 1, MOST_TOGETHER) || (m != NONE && !now.isMorning(m))) {
            return refuse(BAD);
        }
        if (now.allowed == 0) {
            return refuse(STUCK);
        }
        int least = seekBestRow(t);
        return m == NONE ? least : bestRow[m];
    }

    public int will() {
        return leastSaidAgainst(now.allMornings());
    }

    public int level(int m) {
        return now.isMorning(m) ? leastSaidAgainst(1 << m) : refuse(BAD);
    }

    public int spoils(int one) {
        return now.isSomebody(one) ? moreWithout(one) : refuseFarBelow(BAD);
    }

    public int spoiler() {
        if (now.people == 0) {
            return refuse(STUCK);
        }
        int found = 0;
        int most = moreWithout(0);
        for (int one = 1; one < now.people; one++) {
            int more = moreWithout(one);
            if (more > most) {
                most = more;
                found = one;
            }
        }
        return found;
    }

    public int deeper(int one, int m) {
        if (!now.isSomebody(one) || !now.isMorning(m)) {
            return refuse(BAD);
        }
        thought.become(now);
        for (int a = 0; a <= MOST_REASONS; a++) {
            thought.reasons[one] = a;
            if (isIn(thought.expectedBy(one), m)) {
                return a;
            }
        }
        return NONE;
    }

    public int crowd(int kind) {
        if (!isKind(kind)) {
            return refuse(BAD);
        }
        thought.become(now);
        for (int one = 0; one < thought.people; one++) {
            thought.kinds[one] = kind;
        }
        return thought.bySurprise();
    }

    public int second(int m, int g) {
        if (!now.isMorning(m) || !isWithin(g, 0, MOST_BEHIND)) {
            return refuse(BAD);
        }
        int set = 0;
        for (int rung = 0; rung < now.mornings; rung++) {
            if (now.isAllowed(rung) && rung > m - g) {
                set |= 1 << rung;
            }
        }
        return set;
    }

    public int hints(int what) {
        if (!isWithin(what, 0, 1)) {
            return refuse(BAD);
        }
        int set = seekHint();
        return what == 0 ? set : surprisesTold(set);
    }

    // Told rows.

    public int rules(int s, int n, int what) {
        if (!isWithin(n, 1, MOST_TERMS) || !isWithin(what, 0, 1)) {
            return refuse(BAD);
        }
        int refusal = rowRefusal(s);
        if (refusal != NO_REFUSAL) {
            return refuse(refusal);
        }
        if (!areMornings(shelves[s], n)) {
            return refuse(BAD);
        }
        int found = 0;
        int next = 0;
        for (int c = 0; c < now.mornings; c++) {
            for (int k = 0; k < now.mornings; k++) {
                if (fits(shelves[s], n, c, k)) {
                    found++;
                    next |= 1 << now.morningByRule(c, k, n);
                }
            }
        }
        return what == 0 ? found : next;
    }

    public int judge(int s) {
        int refusal = listRefusal(s);
        if (refusal != NO_REFUSAL) {
            return refuse(refusal);
        }
        for (int m = 0; m < now.mornings; m++) {
            if (wronglyTold(s, m) != 0) {
                return m;
            }
        }
        return NONE;
    }

    public int unlike(int s) {
        int refusal = listRefusal(s);
        if (refusal != NO_REFUSAL) {
            return refuse(refusal);
        }
        int times = 0;
        for (int m = 0; m < now.mornings; m++) {
            times += Integer.bitCount(wronglyTold(s, m));
        }
        return times;
    }

    // Terms in truth.

    public int ring() {
        return now.weightsOf(now.allowed) == 0 ? refuse(STUCK) : now.goThroughTerm();
    }

    public int rings(int n) {
        if (!isWithin(n, 1, MOST_TERMS)) {
            return refuse(BAD);
        }
        if (now.weightsOf(now.allowed) == 0) {
            return refuse(STUCK);
        }
        int ahead = now.failed;
        for (int i = 0; i < n; i++) {
            now.goThroughTerm();
        }
        return now.failed - ahead;
    }

    public int status(int what) {
        switch (what) {
            case 0: return now.mornings;
            case 1: return now.people;
            case 2: return now.said;
            case 3: return now.allowed;
            case 4: return now.weightsOf(now.allowed);
            case 5: return now.terms;
            case 6: return now.faces;
            case 7: return now.failed;
            case 8: return tape.size;
            case 9: return now.seedling;
            case 10: return fullShelves();
            case 11: return now.bySurprise();
            default: return isWithin(what, 12, 11 + REFUSAL_NUMBERS) ? refusals[what - 12] : NONE;
        }
    }

    // What several calls need.

    private int refuse(int number) {
        int place = BAD - number;
        if (isWithin(place, 0, REFUSAL_NUMBERS - 1)) {
            refusals[place]++;
        }
        return number;
    }

    private int refuseFarBelow(int number) {
        return FAR_BELOW + refuse(number);
    }

    private int rowRefusal(int s) {
        if (!isShelf(s)) {
            return BAD;
        }
        if (shelves[s].holdsSomebody()) {
            return OTHER;
        }
        return shelves[s].holdsRow() ? NO_REFUSAL : NOTHING;
    }

    private int listRefusal(int s) {
        int refusal = rowRefusal(s);
        if (refusal != NO_REFUSAL) {
            return refusal;
        }
        return shelves[s].hasElements(0, now.mornings) ? NO_REFUSAL : BAD;
    }

    private int wronglyTold(int s, int m) {
        // Bits of people that there aren't tell nothing.
        int told = (int) (shelves[s].values[m] & now.allPeople());
        return told ^ now.expectingOn(m);
    }

    private int saidAs(int one, int kind) {
        int set = now.expectedBy(one);
        switch (kind) {
            case PUPIL: return firstOf(set);
            case SLEEPER: return now.morningsAsleep(one);
            case BETTOR: return Integer.bitCount(set);
            case SURE: return isIn(set, lastOf(now.allowed)) ? 1 : 0;
            default: return now.depthOf(one);
        }
    }

    private void forgetWhoIsGone() {
        for (int s = 0; s < SHELVES; s++) {
            if (shelves[s].content >= SOMEBODY + now.people) {
                shelves[s].holdNothing();
            }
        }
    }

    private int fullShelves() {
        int full = 0;
        for (int s = 0; s < SHELVES; s++) {
            if (shelves[s].content != NONE) {
                full++;
            }
        }
        return full;
    }

    private boolean isNoLoss(int m, int w) {
        int all = now.weightsOf(now.stillOn(m));
        return all != 0 && wagered(now.lotsOf(m), w, all) >= 0;
    }

    private boolean areWagers(Shelf shelf, int n) {
        if (!shelf.hasElements(0, n)) {
            return false;
        }
        for (int i = 0; i < n; i++) {
            long told = shelf.values[i];
            if (told < 0 || told / 100 >= now.mornings || !isCoin((int) (told % 100))) {
                return false;
            }
        }
        return true;
    }

    private boolean areMornings(Shelf shelf, int n) {
        if (!shelf.hasElements(0, n)) {
            return false;
        }
        for (int i = 0; i < n; i++) {
            if (shelf.values[i] < 0 || shelf.values[i] >= now.mornings) {
                return false;
            }
        }
        return true;
    }

    private boolean fits(Shelf shelf, int n, int c, int k) {
        for (int i = 0; i < n; i++) {
            if (shelf.values[i] != now.morningByRule(c, k, i)) {
                return false;
            }
        }
        return true;
    }

    private int seekBestRow(int t) {
        thought.become(now);
        thought.putAllOnLast(t);
        // Weights move bets alone: what is reasoned stays the same for every row.
        int reasoned = thought.reasonedByAll();
        int least = NONE;
        for (int i = 0; i < MOST_ROWS; i++) {
            int together = thought.weightsOf(thought.allowed & (reasoned | thought.betByAll()));
            if (least == NONE || together < least) {
                least = together;
                System.arraycopy(thought.weights, 0, bestRow, 0, MOST_MORNINGS);
            }
            if (least == 0 || !thought.moveToNextRow()) {
                break;
            }
        }
        return least;
    }

    private int leastSaidAgainst(int set) {
        thought.become(now);
        for (int v = 0; v <= MOST_SAID; v++) {
            thought.said = v;
            if ((thought.bySurprise() & set) == 0) {
                return v;
            }
        }
        return NONE;
    }

    private int moreWithout(int one) {
        thought.become(now);
        thought.removeSomebody(one);
        return Integer.bitCount(thought.bySurprise()) - Integer.bitCount(now.bySurprise());
    }

    private int seekHint() {
        thought.become(now);
        int found = 0;
        int most = 0;
        // Upwards from the empty set, by which nobody is surprised: so the least as bits comes first.
        for (int set = 1; set <= now.allowed; set++) {
            if ((set & ~now.allowed) != 0) {
                continue;
            }
            thought.allowed = set;
            int count = Integer.bitCount(thought.bySurprise());
            boolean isFewer = count == most && Integer.bitCount(set) < Integer.bitCount(found);
            if (count > most || isFewer) {
                most = count;
                found = set;
            }
        }
        return found;
    }

    private int surprisesTold(int set) {
        thought.become(now);
        thought.allowed = set;
        return Integer.bitCount(thought.bySurprise());
    }

    private static boolean isWithin(int v, int least, int most) {
        return v >= least && v <= most;
    }

    private static boolean isShelf(int s) {
        return isWithin(s, 0, SHELVES - 1);
    }

    private static boolean isKind(int kind) {
        return isWithin(kind, PUPIL, SURE);
    }

    private static boolean isCoin(int w) {
        return isWithin(w, 1, MOST_COIN);
    }

    private static boolean isOfKind(int kind, int wanted) {
        int at = kind;
        for (int i = 0; i < KIND_ABOVE.length; i++) {
            if (at == wanted) {
                return true;
            }
            if (at < 0 || at >= KIND_ABOVE.length) {
                return false;
            }
            at = KIND_ABOVE[at];
        }
        return false;
    }

    private static boolean isIn(int set, int m) {
        return m >= 0 && m < MOST_MORNINGS && ((set >> m) & 1) == 1;
    }

    private static int firstOf(int set) {
        for (int m = 0; m < MOST_MORNINGS; m++) {
            if (isIn(set, m)) {
                return m;
            }
        }
        return NONE;
    }

    private static int lastOf(int set) {
        for (int m = MOST_MORNINGS - 1; m >= 0; m--) {
            if (isIn(set, m)) {
                return m;
            }
        }
        return NONE;
    }

    private static int shareOf(int part, int all) {
        return all == 0 ? NONE : MILLION * part / all;
    }

    private static int wagered(int lots, int w, int all) {
        return shareOf(lots * w, all) - MILLION;
    }

    /** Mornings, people and what was said, drawn and counted: all that an image keeps. */
    private static final class School {
        int mornings;
        int allowed;
        final int[] weights = new int[MOST_MORNINGS];
        int said = 1;
        int people;
        final int[] kinds = new int[MOST_PEOPLE];
        final int[] reasons = new int[MOST_PEOPLE];
        int seedling = 1;
        int terms;
        int faces;
        int failed;

        School() {
            beginTerm(FIRST_MORNINGS);
        }

        void become(School other) {
            mornings = other.mornings;
            allowed = other.allowed;
            System.arraycopy(other.weights, 0, weights, 0, MOST_MORNINGS);
            said = other.said;
            people = other.people;
            System.arraycopy(other.kinds, 0, kinds, 0, MOST_PEOPLE);
            System.arraycopy(other.reasons, 0, reasons, 0, MOST_PEOPLE);
            seedling = other.seedling;
            terms = other.terms;
            faces = other.faces;
            failed = other.failed;
        }

        void beginTerm(int n) {
            mornings = n;
            allowed = allMornings();
            for (int m = 0; m < MOST_MORNINGS; m++) {
                weights[m] = 1;
            }
        }

        void addSomebody(int kind, int a) {
            if (people < MOST_PEOPLE) {
                kinds[people] = kind;
                reasons[people] = a;
                people++;
            }
        }

        void removeSomebody(int one) {
            if (!isSomebody(one)) {
                return;
            }
            for (int other = one + 1; other < people; other++) {
                kinds[other - 1] = kinds[other];
                reasons[other - 1] = reasons[other];
            }
            people--;
        }

        boolean isMorning(int m) {
            return isWithin(m, 0, mornings - 1);
        }

        boolean isSomebody(int one) {
            return isWithin(one, 0, people - 1);
        }

        boolean isAllowed(int m) {
            return isIn(allowed, m);
        }

        int allMornings() {
            return (1 << mornings) - 1;
        }

        int allPeople() {
            return (1 << people) - 1;
        }

        int stillOn(int m) {
            return allowed & ~((1 << m) - 1);
        }

        /** The weight of a morning as the lots have it. */
        int lotsOf(int m) {
            return isAllowed(m) ? weights[m] : 0;
        }

        int weightsOf(int set) {
            int together = 0;
            for (int m = 0; m < mornings; m++) {
                if (isIn(set, m)) {
                    together += weights[m];
                }
            }
            return together;
        }

        /** NONE, if there are no odds on that morning. */
        int oddsOn(int m) {
            return shareOf(lotsOf(m), weightsOf(stillOn(m)));
        }

        int depthOf(int one) {
            if (kinds[one] != WISE) {
                return ownDepthOf(one);
            }
            // With nobody else there is no depth to go beyond, so this ends as 0.
            int most = NONE;
            for (int other = 0; other < people; other++) {
                if (kinds[other] != WISE) {
                    most = Math.max(most, ownDepthOf(other));
                }
            }
            return Math.min(most + 1, said);
        }

        private int ownDepthOf(int one) {
            int depth = Math.min(reasons[one], said);
            return kinds[one] == USHER ? depth + 1 : depth;
        }

        int canThink(int one, int m) {
            return allowedWithoutLast(depthOf(one)) & ~((1 << m) - 1);
        }

        private int allowedWithoutLast(int depth) {
            int left = allowed;
            for (int i = 0; i < depth && left != 0; i++) {
                left = left & ~(1 << lastOf(left));
            }
            return left;
        }

        boolean sleepsOn(int one, int m) {
            return isOfKind(kinds[one], SLEEPER) && m % (2 + reasons[one] % 3) == 0;
        }

        int morningsAsleep(int one) {
            int count = 0;
            for (int m = 0; m < mornings; m++) {
                if (sleepsOn(one, m)) {
                    count++;
                }
            }
            return count;
        }

        int expectedBy(int one) {
            return reasonedBy(one) | betBy(one);
        }

        int reasonedBy(int one) {
            if (kinds[one] == BETTOR) {
                return 0;
            }
            // What one can think shrinks to a single morning on the last of them, and on no other.
            int last = lastOf(allowedWithoutLast(depthOf(one)));
            return last == NONE || sleepsOn(one, last) ? 0 : 1 << last;
        }

        int betBy(int one) {
            if (!isOfKind(kinds[one], BETTOR)) {
                return 0;
            }
            int set = 0;
            int still = 0;
            for (int m = mornings - 1; m >= 0; m--) {
                int lots = lotsOf(m);
                still += lots;
                if (lots != 0 && 10 * lots >= reasons[one] * still) {
                    set |= 1 << m;
                }
            }
            return set;
        }

        int reasonedByAll() {
            int set = 0;
            for (int one = 0; one < people; one++) {
                set |= reasonedBy(one);
            }
            return set;
        }

        int betByAll() {
            int set = 0;
            for (int one = 0; one < people; one++) {
                set |= betBy(one);
            }
            return set;
        }

        int bySurprise() {
            return allowed & ~(reasonedByAll() | betByAll());
        }

        int expectingOn(int m) {
            int set = 0;
            for (int one = 0; one < people; one++) {
                if (isIn(expectedBy(one), m)) {
                    set |= 1 << one;
                }
            }
            return set;
        }

        boolean canForesee(int one, int other) {
            return !isOfKind(kinds[other], BETTOR) && depthOf(other) < depthOf(one);
        }

        int morningByRule(int c, int k, int i) {
            return mornings == 0 ? 0 : (c + k * i) % mornings;
        }

        /** The first of all rows of weights that are t together. */
        void putAllOnLast(int t) {
            for (int m = 0; m < MOST_MORNINGS; m++) {
                weights[m] = 0;
            }
            int last = lastOf(allowed);
            if (last != NONE) {
                weights[last] = t;
            }
        }

        /** The next row, morning by morning, that is as much together; false: there is none. */
        boolean moveToNextRow() {
            int from = lastWeighed();
            if (from == NONE) {
                return false;
            }
            int to = lastOf(allowed & ((1 << from) - 1));
            if (to == NONE) {
                return false;
            }
            int rest = weights[from] - 1;
            weights[from] = 0;
            weights[to]++;
            weights[lastOf(allowed)] = rest;
            return true;
        }

        private int lastWeighed() {
            for (int m = mornings - 1; m >= 0; m--) {
                if (weights[m] != 0) {
                    return m;
                }
            }
            return NONE;
        }

        int goThroughTerm() {
            int m = drawMorning();
            if (m == NONE) {
                return NONE;
            }
            int expecting = Integer.bitCount(expectingOn(m));
            faces += people - expecting;
            if (expecting > 0) {
                failed++;
            }
            terms++;
            return m;
        }

        private int drawMorning() {
            int all = weightsOf(allowed);
            if (all == 0) {
                return NONE;
            }
            int left = drawBelow(all);
            for (int m = 0; m < mornings; m++) {
                left -= lotsOf(m);
                if (left < 0) {
                    return m;
                }
            }
            return NONE;
        }

        private int drawBelow(int n) {
            seedling = seedling * 1103515245 + 12345;
            return n == 0 ? 0 : (seedling >>> 16) % n;
        }
    }

    /** Holds nothing, a row or somebody; its elements stay and serve every row that it comes to hold. */
    private static final class Shelf {
        // As the call holds tells it: NONE, a sort, or SOMEBODY and who.
        int content = NONE;
        int length;
        final long[] values = new long[MOST_ELEMENTS];

        void holdNothing() {
            content = NONE;
            length = 0;
        }

        void holdSomebody(int one) {
            content = SOMEBODY + one;
            length = 0;
        }

        void holdRow(int sort, int n) {
            content = sort;
            length = n;
            for (int i = 0; i < MOST_ELEMENTS; i++) {
                values[i] = 0;
            }
        }

        boolean holdsSomebody() {
            return content >= SOMEBODY;
        }

        boolean holdsRow() {
            return isWithin(content, 0, SORTS - 1);
        }

        boolean hasElement(int i) {
            return isWithin(i, 0, length - 1);
        }

        boolean hasElements(int i, int n) {
            return i >= 0 && n >= 0 && n <= length - i;
        }

        void put(int i, long v) {
            if (hasElement(i)) {
                values[i] = cutToSort(v);
            }
        }

        private long cutToSort(long v) {
            switch (content) {
                case BYTES: return (byte) v;
                case SHORTS: return (short) v;
                case INTS: return (int) v;
                case BOOLEANS: return v != 0 ? 1 : 0;
                default: return v;
            }
        }
    }

    /** The bytes of a school's text, and its reading, token by token. */
    private static final class Tape {
        private static final int END = 0;
        private static final int WORD = 1;
        private static final int NUMBER = 2;
        private static final int SIGN = 3;
        private static final int NO_TOKEN = 4;
        private static final int MOST_DIGITS = 2;

        final int[] letters = new int[MOST_LETTERS];
        int size;
        // The place of the token at hand; reading stops on the first that can't stand, so this is the fault.
        int start;
        private int end;
        private int token;

        void append(int letter) {
            if (size < MOST_LETTERS) {
                letters[size] = letter;
                size++;
            }
        }

        /** How many statements; NONE if one can't stand (the school is then half changed). */
        int readInto(School draft) {
            end = 0;
            step();
            for (int statements = 1; statements <= MOST_LETTERS; statements++) {
                if (!readStatement(draft)) {
                    return NONE;
                }
                if (token == END) {
                    return statements;
                }
                if (token != SIGN) {
                    return NONE;
                }
                step();
            }
            return NONE;
        }

        private boolean readStatement(School draft) {
            if (isWord("term")) {
                return readTerm(draft);
            }
            if (isWord("never")) {
                return readNever(draft);
            }
            if (isWord("weight")) {
                return readWeight(draft);
            }
            if (isWord("said")) {
                return readSaid(draft);
            }
            if (isWord("person")) {
                return readPerson(draft);
            }
            return isWord("hint") && readHint(draft);
        }

        private boolean readTerm(School draft) {
            step();
            int n = takeNumber(1, MOST_MORNINGS);
            if (n == NONE) {
                return false;
            }
            draft.beginTerm(n);
            return true;
        }

        private boolean readNever(School draft) {
            step();
            int m = takeNumber(0, draft.mornings - 1);
            if (m == NONE) {
                return false;
            }
            draft.allowed = draft.allowed & ~(1 << m);
            return true;
        }

        private boolean readWeight(School draft) {
            step();
            int m = takeNumber(0, draft.mornings - 1);
            if (m == NONE) {
                return false;
            }
            int v = takeNumber(0, MOST_WEIGHT);
            if (v == NONE) {
                return false;
            }
            draft.weights[m] = v;
            return true;
        }

        private boolean readSaid(School draft) {
            step();
            int v = takeNumber(0, MOST_SAID);
            if (v == NONE) {
                return false;
            }
            draft.said = v;
            return true;
        }

        private boolean readPerson(School draft) {
            // Looked at ahead of the numbers: without room, it is the word that can't stand.
            if (draft.people >= MOST_PEOPLE) {
                return false;
            }
            step();
            int kind = takeNumber(PUPIL, SURE);
            if (kind == NONE) {
                return false;
            }
            int a = takeNumber(0, MOST_REASONS);
            if (a == NONE) {
                return false;
            }
            draft.addSomebody(kind, a);
            return true;
        }

        private boolean readHint(School draft) {
            step();
            int set = 0;
            for (int i = 0; i <= draft.mornings && (i == 0 || token == NUMBER); i++) {
                int m = numberAtHand(0, draft.mornings - 1);
                if (m == NONE || isIn(set, m)) {
                    return false;
                }
                set |= 1 << m;
                step();
            }
            draft.allowed = draft.allowed & set;
            return true;
        }

        private int takeNumber(int least, int most) {
            int v = numberAtHand(least, most);
            if (v != NONE) {
                step();
            }
            return v;
        }

        private int numberAtHand(int least, int most) {
            if (token != NUMBER || end - start > MOST_DIGITS) {
                return NONE;
            }
            int v = 0;
            for (int i = start; i < end; i++) {
                v = 10 * v + letters[i] - '0';
            }
            return isWithin(v, least, most) ? v : NONE;
        }

        private boolean isWord(String word) {
            if (token != WORD || end - start != word.length()) {
                return false;
            }
            for (int i = 0; i < word.length(); i++) {
                if (letters[start + i] != word.charAt(i)) {
                    return false;
                }
            }
            return true;
        }

        private void step() {
            while (end < size && letters[end] == ' ') {
                end++;
            }
            start = end;
            if (end >= size) {
                token = END;
                return;
            }
            token = tokenOf(letters[end]);
            end++;
            while (end < size && isLong(token) && tokenOf(letters[end]) == token) {
                end++;
            }
        }

        private static boolean isLong(int token) {
            return token == WORD || token == NUMBER;
        }

        private static int tokenOf(int letter) {
            if (letter >= 'a' && letter <= 'z') {
                return WORD;
            }
            if (letter >= '0' && letter <= '9') {
                return NUMBER;
            }
            return letter == ';' ? SIGN : NO_TOKEN;
        }
    }
}
