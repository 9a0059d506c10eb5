import java.util.NoSuchElementException;

/** A park with ha-has, told as a text: ways, hedges, gates, meetings, guesses, slips, rambles, acts. */
public final class HahaLawn {
    /** There is none; refused. */
    public static final int NONE = -1;

    /** What a call that isn't refused answers where there is nothing. */
    private static final int NOTHING = -2;
    private static final int NO_PAY = -100;

    private static final int NOT_REFUSED = 0;
    private static final int NO_SUCH = 1;
    private static final int BAD_NUMBER = 2;
    private static final int NO_ROOM = 3;
    private static final int FAULTY = 4;
    private static final int NOT_SO = 5;
    private static final int THERE_IS_NONE = 6;

    private static final int LAWN = 0;
    private static final int DITCH = 1;
    private static final int GATE = 2;
    private static final int HEDGE = 3;

    private static final int GUEST = 0;
    private static final int CHILD = 1;
    private static final int COLONEL = 2;
    private static final int KEEPER = 3;

    private static final int NORTH = 0;
    private static final int EAST = 1;
    private static final int SOUTH = 2;
    private static final int WEST = 3;
    private static final int STEPS = 4;

    private static final int MOST_PLACES = 20;
    private static final int MOST_UNSURE = 5;
    private static final int MOST_WALKERS = 4;
    private static final int MOST_WALKS = 6;
    private static final int LONGEST_WALK = 3;
    private static final int MOST_KEPT = 16;
    private static final int MOST_IMAGES = 3;
    private static final int HIGHEST_SHAME = 9;
    private static final int MOST_FALLS_ASKED = 9;
    private static final int MOST_MINUTES_ASKED = 99;
    private static final int LONGEST_RAMBLE = 90;
    private static final int SEEDS = 65537;
    private static final int MINUTES_WITHOUT_WAY = 60;
    /** More than the ways of all walkers together can need. */
    private static final int MINUTES_ABOVE_ALL = 1000000;

    private final Tape tape = new Tape();
    private final Now now = new Now();
    private final Now trial = new Now();
    private final Now[] kept = new Now[MOST_KEPT];
    private final Now[] images = new Now[MOST_IMAGES];
    private final Way way = new Way();
    private final Way otherWay = new Way();
    private final Flood flood = new Flood();
    private final CutSearch cutSearch = new CutSearch();
    private final DrySearch drySearch = new DrySearch();
    private final Guess guess = new Guess();
    private final Fraction fraction = new Fraction();
    private Park told = new Park();
    private Park draft = new Park();
    private int keptCount;
    private int imageCount;
    private int trouble;

    public HahaLawn() {
        for (int i = 0; i < MOST_KEPT; i++) {
            kept[i] = new Now();
        }
        for (int i = 0; i < MOST_IMAGES; i++) {
            images[i] = new Now();
        }
    }

    // ---- the park

    public int feed(int a, int b, int c, int d, int e) {
        if (!tape.hasRoom()) {
            return NONE;
        }
        tape.append(a);
        tape.append(b);
        tape.append(c);
        tape.append(d);
        tape.append(e);
        return tape.length;
    }

    public int park(int n) {
        if (n < 0 || n > tape.length) {
            return refuse(BAD_NUMBER);
        }
        if (!tape.read(n, draft)) {
            return refuse(FAULTY);
        }
        Park former = told;
        told = draft;
        draft = former;
        now.begin(told);
        guess.learn(told);
        keptCount = 0;
        imageCount = 0;
        return answer(now.ground.count);
    }

    public int fault() {
        return tape.fault;
    }

    public int where() {
        return trouble == FAULTY ? tape.faultAt : NONE;
    }

    // ---- now

    public int place(int c, int what) {
        if (!now.ground.holds(c)) {
            return refuse(NO_SUCH);
        }
        switch (what) {
            case 0:
                return answer(now.ground.sortAt(c));
            case 1:
                return answer(told.isUnsure(c) ? 1 : 0);
            case 2:
                return answer(now.walkersAt(c));
            case 3:
                int to = now.ground.target(c, SOUTH);
                return answer(to == NONE ? NOTHING : to);
            default:
                return refuse(NO_SUCH);
        }
    }

    public int walker(int w, int what) {
        if (!isWalker(w)) {
            return refuse(NO_SUCH);
        }
        switch (what) {
            case 0:
                return answer(told.kinds[w]);
            case 1:
                return answer(now.at[w]);
            case 2:
                return answer(told.goals[w]);
            case 3:
                return answer(now.fell[w]);
            case 4:
                return answer(now.went[w]);
            default:
                return refuse(NO_SUCH);
        }
    }

    public int minutes(int w, int c, int step) {
        if (!isWalker(w) || !now.ground.holds(c)) {
            return refuse(NO_SUCH);
        }
        if (!isStep(step)) {
            return refuse(BAD_NUMBER);
        }
        return answer(now.ground.timeFor(told.kinds[w], c, step));
    }

    public int falls(int w, int c, int step) {
        if (!isWalker(w) || !now.ground.holds(c)) {
            return refuse(NO_SUCH);
        }
        if (!isStep(step)) {
            return refuse(BAD_NUMBER);
        }
        int kind = told.kinds[w];
        boolean can = now.ground.timeFor(kind, c, step) != NOTHING;
        return answer(can ? now.ground.fallsFor(kind, c, step) : NOTHING);
    }

    public int all(int sort) {
        if (!hasPark()) {
            return refuse(NO_SUCH);
        }
        if (sort < LAWN || sort > HEDGE) {
            return refuse(BAD_NUMBER);
        }
        return answer(now.ground.bitsOf(sort));
    }

    // ---- ways

    public int quick(int w) {
        if (!isWalker(w)) {
            return refuse(NO_SUCH);
        }
        return answer(findQuick(way, w) ? way.minutesInAll() : NOTHING);
    }

    public int quickFalls(int w) {
        if (!isWalker(w)) {
            return refuse(NO_SUCH);
        }
        return answer(findQuick(way, w) ? way.fallCount : NOTHING);
    }

    public int quickAt(int w, int i) {
        if (!isWalker(w) || !findQuick(way, w) || !way.hasStep(i)) {
            return refuse(NO_SUCH);
        }
        return answer(way.steps[i]);
    }

    public int dry(int w) {
        if (!isWalker(w)) {
            return refuse(NO_SUCH);
        }
        return answer(findDry(w) ? way.fallCount : NOTHING);
    }

    public int dryMinutes(int w) {
        if (!isWalker(w)) {
            return refuse(NO_SUCH);
        }
        return answer(findDry(w) ? way.minutesInAll() : NOTHING);
    }

    public int dryAt(int w, int i) {
        if (!isWalker(w) || !findDry(w) || !way.hasStep(i)) {
            return refuse(NO_SUCH);
        }
        return answer(way.steps[i]);
    }

    public int reach(int w) {
        if (!isWalker(w)) {
            return refuse(NO_SUCH);
        }
        flood.learn(now.ground, told.kinds[w], true);
        return answer(flood.spread(now.at[w], now.ground.bitsOf(DITCH), 0));
    }

    public int reachIn(int w, int n) {
        if (!isWalker(w)) {
            return refuse(NO_SUCH);
        }
        if (n < 0 || n > MOST_MINUTES_ASKED) {
            return refuse(BAD_NUMBER);
        }
        int bits = 0;
        for (int c = 0; c < now.ground.count; c++) {
            int needed = soonest(w, c);
            if (needed != NOTHING && needed <= n) {
                bits |= 1 << c;
            }
        }
        return answer(bits);
    }

    public int minutesTo(int w, int c) {
        if (!isWalker(w) || !now.ground.holds(c)) {
            return refuse(NO_SUCH);
        }
        return answer(soonest(w, c));
    }

    public int latest() {
        if (!hasPark()) {
            return refuse(NO_SUCH);
        }
        int best = NOTHING;
        int most = NONE;
        for (int w = 0; w < told.walkers; w++) {
            int needed = soonest(w, told.goals[w]);
            if (needed > most) {
                most = needed;
                best = w;
            }
        }
        return answer(best);
    }

    // ---- hedges, gates

    public int cut(int w) {
        if (!isWalker(w)) {
            return refuse(NO_SUCH);
        }
        int goal = told.goals[w];
        cutSearch.begin(now.ground, told.kinds[w], now.at[w], goal);
        int barred = now.ground.bitsOf(HEDGE) | 1 << now.at[w] | 1 << goal;
        return answer(cutSearch.fewest(now.ground.allBits() & ~barred));
    }

    public int gates() {
        if (!hasPark()) {
            return refuse(NO_SUCH);
        }
        drySearch.begin(told, now);
        return answer(drySearch.fewest(now.ground.bitsOf(DITCH)));
    }

    public int toFill() {
        if (!hasPark()) {
            return refuse(NO_SUCH);
        }
        int best = NOTHING;
        int fewest = MINUTES_ABOVE_ALL;
        trial.take(now);
        for (int c = 0; c < now.ground.count; c++) {
            if (now.ground.sortAt(c) == DITCH) {
                trial.ground.put(c, LAWN);
                int sum = minutesOfAll(trial);
                trial.ground.put(c, DITCH);
                if (sum < fewest) {
                    fewest = sum;
                    best = c;
                }
            }
        }
        return answer(best);
    }

    public int trap() {
        if (!hasPark()) {
            return refuse(NO_SUCH);
        }
        drySearch.begin(told, now);
        int before = drySearch.walkersBy(0);
        int best = NOTHING;
        int most = 0;
        for (int c = 0; c < now.ground.count; c++) {
            if (now.ground.sortAt(c) == LAWN && now.walkersAt(c) == 0) {
                int losers = Integer.bitCount(before & ~drySearch.walkersBy(1 << c));
                if (losers > most) {
                    most = losers;
                    best = c;
                }
            }
        }
        return answer(best);
    }

    // ---- meeting

    public int meet(int w, int other) {
        if (!isWalker(w) || !isWalker(other) || w == other) {
            return refuse(NO_SUCH);
        }
        return answer(firstMeeting(w, other));
    }

    public int meetAt(int w, int other) {
        if (!isWalker(w) || !isWalker(other) || w == other) {
            return refuse(NO_SUCH);
        }
        int minute = firstMeeting(w, other);
        return answer(minute == NOTHING ? NOTHING : way.placeAfter(minute));
    }

    public int passers(int c) {
        if (!now.ground.holds(c)) {
            return refuse(NO_SUCH);
        }
        int bits = 0;
        for (int w = 0; w < told.walkers; w++) {
            if (findQuick(way, w) && way.touches(c)) {
                bits |= 1 << w;
            }
        }
        return answer(bits);
    }

    // ---- unsure places

    public int fits() {
        if (!hasPark()) {
            return refuse(NO_SUCH);
        }
        return answer(guess.count());
    }

    public int fitAt(int i) {
        int set = i < 0 ? NONE : guess.ith(i);
        return set == NONE ? refuse(NO_SUCH) : answer(set);
    }

    public long odds(int k, boolean lower) {
        if (k < 0 || k >= told.unsureCount) {
            return refuse(NO_SUCH);
        }
        fraction.put(guess.weightOf(k), guess.weightOfAll());
        return share(lower);
    }

    public int likeliest() {
        if (!hasPark()) {
            return refuse(NO_SUCH);
        }
        return answer(guess.heaviest());
    }

    public int tread() {
        if (!hasPark()) {
            return refuse(NO_SUCH);
        }
        return answer(guess.best(told.unsureCount));
    }

    public int treadLeaves() {
        if (!hasPark()) {
            return refuse(NO_SUCH);
        }
        int k = guess.best(told.unsureCount);
        return answer(k == NOTHING ? NOTHING : guess.leftAtMost(k));
    }

    public int judge() {
        if (!hasPark()) {
            return refuse(NO_SUCH);
        }
        int ditches = told.ground.bitsOf(DITCH);
        for (int k = 0; k < told.walks; k++) {
            if (told.isToldWrongly(k, ditches)) {
                return answer(k);
            }
        }
        return answer(NOTHING);
    }

    public long walkOdds(int c, int steps, boolean lower) {
        if (!now.ground.holds(c)) {
            return refuse(NO_SUCH);
        }
        if (steps < 1 || steps > LONGEST_WALK || !now.ground.holds(c + steps * now.ground.wide)) {
            return refuse(BAD_NUMBER);
        }
        fraction.put(guess.weightOver(now.ground.bitsSouthOf(c, steps)), guess.weightOfAll());
        return share(lower);
    }

    // ---- two who lie in it

    public int lies(int shame, boolean one, boolean other, boolean ofOther) {
        int refusal = refusalOfShame(shame);
        if (refusal != NOT_REFUSED) {
            refuse(refusal);
            return NO_PAY;
        }
        return answer(ofOther ? pay(shame, other, one) : pay(shame, one, other));
    }

    public int rests(int shame) {
        int refusal = refusalOfShame(shame);
        if (refusal != NOT_REFUSED) {
            return refuse(refusal);
        }
        int count = 0;
        for (int pair = 0; pair < 4; pair++) {
            if (isRest(shame, pair >= 2, pair % 2 == 1)) {
                count++;
            }
        }
        return answer(count);
    }

    public int rest(int shame) {
        int refusal = refusalOfShame(shame);
        if (refusal != NOT_REFUSED) {
            return refuse(refusal);
        }
        for (int pair = 0; pair < 4; pair++) {
            if (isRest(shame, pair >= 2, pair % 2 == 1)) {
                return answer(pair / 2 * 10 + pair % 2);
            }
        }
        return answer(NOTHING);
    }

    // ---- slips, rambles

    public long fallOdds(int w, int often, boolean lower) {
        if (!isWalker(w)) {
            return refuse(NO_SUCH);
        }
        if (often < 0 || often > MOST_FALLS_ASKED) {
            return refuse(BAD_NUMBER);
        }
        if (!findDry(w)) {
            return refuse(THERE_IS_NONE);
        }
        fraction.putBinomial(way.fallCount, often, told.slips);
        return share(lower);
    }

    public long mean(int w, boolean lower) {
        if (!isWalker(w)) {
            return refuse(NO_SUCH);
        }
        if (!findDry(w)) {
            return refuse(THERE_IS_NONE);
        }
        fraction.put((long) way.fallCount * told.slips, 100);
        return share(lower);
    }

    public int ramble(int w, int seed, int n) {
        int refusal = refusalOfRamble(w, seed, n);
        if (refusal != NOT_REFUSED) {
            return refuse(refusal);
        }
        wander(w, seed, n);
        return answer(trial.at[w]);
    }

    public int rambleFalls(int w, int seed, int n) {
        int refusal = refusalOfRamble(w, seed, n);
        if (refusal != NOT_REFUSED) {
            return refuse(refusal);
        }
        wander(w, seed, n);
        return answer(trial.fell[w] - now.fell[w]);
    }

    public int strayed(int w, int seed, int n) {
        int refusal = refusalOfRamble(w, seed, n);
        if (refusal != NOT_REFUSED) {
            return refuse(refusal);
        }
        return answer(wander(w, seed, n));
    }

    // ---- acts

    public int step(int w, int step) {
        if (!isWalker(w)) {
            return refuse(NO_SUCH);
        }
        if (!isStep(step)) {
            return refuse(BAD_NUMBER);
        }
        int kind = told.kinds[w];
        if (now.ground.timeFor(kind, now.at[w], step) == NOTHING) {
            return refuse(THERE_IS_NONE);
        }
        keepNow();
        now.go(w, kind, step);
        return answer(now.at[w]);
    }

    public boolean dig(int c) {
        return change(c, LAWN, DITCH);
    }

    public boolean fill(int c) {
        return change(c, DITCH, LAWN);
    }

    public boolean gate(int c) {
        return change(c, DITCH, GATE);
    }

    public boolean hedge(int c) {
        if (now.ground.holds(c) && now.walkersAt(c) != 0) {
            return report(NOT_SO);
        }
        return change(c, LAWN, HEDGE);
    }

    public boolean undo() {
        if (keptCount == 0) {
            return report(THERE_IS_NONE);
        }
        keptCount--;
        now.take(kept[keptCount]);
        return report(NOT_REFUSED);
    }

    public int image() {
        if (!hasPark()) {
            return refuse(NO_SUCH);
        }
        if (imageCount == MOST_IMAGES) {
            return refuse(NO_ROOM);
        }
        images[imageCount].take(now);
        imageCount++;
        return answer(imageCount - 1);
    }

    public boolean back(int image) {
        if (image < 0 || image >= imageCount) {
            return report(NO_SUCH);
        }
        now.take(images[image]);
        keptCount = 0;
        return report(NOT_REFUSED);
    }

    // ---- what is told

    public int led(int i) throws NoSuchElementException {
        int before = 0;
        for (int w = 0; w < told.walkers; w++) {
            if (soonest(w, told.goals[w]) == NOTHING) {
                if (before == i) {
                    return w;
                }
                before++;
            }
        }
        throw new NoSuchElementException();
    }

    public int size(int what) {
        switch (what) {
            case 0:
                return now.ground.wide;
            case 1:
                return now.ground.deep;
            case 2:
                return told.errs;
            case 3:
                return told.slips;
            case 4:
                return told.walkers;
            case 5:
                return told.walks;
            case 6:
                return told.unsureCount;
            case 7:
                return keptCount;
            case 8:
                return imageCount;
            case 9:
                return tape.length;
            default:
                return NONE;
        }
    }

    public int trouble() {
        return trouble;
    }

    // ---- how calls answer

    private int answer(int value) {
        trouble = NOT_REFUSED;
        return value;
    }

    private int refuse(int number) {
        trouble = number;
        return NONE;
    }

    private boolean report(int number) {
        trouble = number;
        return number == NOT_REFUSED;
    }

    private long share(boolean lower) {
        trouble = NOT_REFUSED;
        return lower ? fraction.lower : fraction.upper;
    }

    private boolean hasPark() {
        return now.ground.count > 0;
    }

    private boolean isWalker(int w) {
        return w >= 0 && w < told.walkers;
    }

    private static boolean isStep(int step) {
        return step >= 0 && step < STEPS;
    }

    private int refusalOfShame(int shame) {
        if (!hasPark()) {
            return NO_SUCH;
        }
        return shame < 0 || shame > HIGHEST_SHAME ? BAD_NUMBER : NOT_REFUSED;
    }

    private int refusalOfRamble(int w, int seed, int n) {
        if (!isWalker(w)) {
            return NO_SUCH;
        }
        boolean known = seed >= 0 && seed < SEEDS && n >= 0 && n <= LONGEST_RAMBLE;
        return known ? NOT_REFUSED : BAD_NUMBER;
    }

    // ---- what calls share

    private boolean findQuick(Way found, int w) {
        return found.find(now.ground, told.kinds[w], now.at[w], told.goals[w], false);
    }

    private boolean findDry(int w) {
        return way.find(now.ground, told.kinds[w], now.at[w], told.goals[w], true);
    }

    /** The fewest minutes from where a walker is to a PLACE. */
    private int soonest(int w, int c) {
        boolean found = way.find(now.ground, told.kinds[w], now.at[w], c, false);
        return found ? way.minutesInAll() : NOTHING;
    }

    private int minutesOfAll(Now state) {
        int sum = 0;
        for (int w = 0; w < told.walkers; w++) {
            boolean found = way.find(state.ground, told.kinds[w], state.at[w], told.goals[w], false);
            sum += found ? way.minutesInAll() : MINUTES_WITHOUT_WAY;
        }
        return sum;
    }

    private int firstMeeting(int w, int other) {
        if (!findQuick(way, w) || !findQuick(otherWay, other)) {
            return NOTHING;
        }
        int last = Math.max(way.minutesInAll(), otherWay.minutesInAll());
        for (int minute = 0; minute <= last; minute++) {
            if (way.placeAfter(minute) == otherWay.placeAfter(minute)) {
                return minute;
            }
        }
        return NOTHING;
    }

    /** Rambles in the trial; behind how many draws he is first where he goes. */
    private int wander(int w, int seed, int n) {
        trial.take(now);
        int goal = told.goals[w];
        int arrived = trial.at[w] == goal ? 0 : NOTHING;
        int draw = seed;
        for (int i = 1; i <= n; i++) {
            draw = (75 * draw + 74) % SEEDS;
            trial.go(w, told.kinds[w], draw % STEPS);
            if (arrived == NOTHING && trial.at[w] == goal) {
                arrived = i;
            }
        }
        return arrived;
    }

    private boolean change(int c, int from, int to) {
        if (!now.ground.holds(c)) {
            return report(NO_SUCH);
        }
        if (now.ground.sortAt(c) != from) {
            return report(NOT_SO);
        }
        keepNow();
        now.ground.put(c, to);
        return report(NOT_REFUSED);
    }

    /** Keeps what UNDO goes back to; the oldest one makes room for the latest. */
    private void keepNow() {
        if (keptCount == MOST_KEPT) {
            Now oldest = kept[0];
            for (int i = 1; i < MOST_KEPT; i++) {
                kept[i - 1] = kept[i];
            }
            kept[MOST_KEPT - 1] = oldest;
            keptCount--;
        }
        kept[keptCount].take(now);
        keptCount++;
    }

    private static int pay(int shame, boolean hears, boolean otherHears) {
        if (hears) {
            return otherHears ? 2 - shame : 4;
        }
        return otherHears ? 0 : 1;
    }

    private static boolean isRest(int shame, boolean one, boolean other) {
        boolean oneRests = pay(shame, one, other) >= pay(shame, !one, other);
        boolean otherRests = pay(shame, other, one) >= pay(shame, !other, one);
        return oneRests && otherRests;
    }

    /** What is at which PLACE, and what STEPS among PLACES take. */
    private static final class Ground {
        private int wide;
        private int deep;
        private int count;
        private final int[] sorts = new int[MOST_PLACES];

        void resize(int columns, int rows) {
            wide = columns;
            deep = rows;
            count = columns * rows;
        }

        boolean holds(int c) {
            return c >= 0 && c < count;
        }

        int allBits() {
            return (1 << count) - 1;
        }

        int sortAt(int c) {
            return holds(c) ? sorts[c] : HEDGE;
        }

        void put(int c, int sort) {
            if (holds(c)) {
                sorts[c] = sort;
            }
        }

        int bitsOf(int sort) {
            int bits = 0;
            for (int c = 0; c < count; c++) {
                if (sorts[c] == sort) {
                    bits |= 1 << c;
                }
            }
            return bits;
        }

        /** The PLACES that a walk to the south goes onto, as bits. */
        int bitsSouthOf(int c, int steps) {
            int bits = 0;
            for (int i = 1; i <= steps; i++) {
                bits |= 1 << c + i * wide;
            }
            return bits;
        }

        /** Where a STEP leads; NONE out of the park and onto a hedge, for anybody. */
        int target(int c, int step) {
            if (c < 0 || c >= count || wide <= 0) {
                return NONE;
            }
            int to = NONE;
            if (step == NORTH) {
                to = c - wide;
            } else if (step == SOUTH) {
                to = c + wide;
            } else if (step == EAST && c % wide < wide - 1) {
                to = c + 1;
            } else if (step == WEST && c % wide > 0) {
                to = c - 1;
            }
            return to < 0 || to >= count || sorts[to] == HEDGE ? NONE : to;
        }

        /** Minutes that a STEP takes; NOTHING if such a walker can't. */
        int timeFor(int kind, int c, int step) {
            int to = target(c, step);
            if (to == NONE) {
                return NOTHING;
            }
            if (sorts[to] == DITCH) {
                return timeOntoDitch(kind, step);
            }
            return sorts[c] == DITCH ? timeOutOfDitch(kind, step) : 1;
        }

        /** From anywhere, another ditch too. */
        static int timeOntoDitch(int kind, int step) {
            if (kind == CHILD) {
                return NOTHING;
            }
            if (kind == COLONEL || step == EAST || step == WEST) {
                return 1;
            }
            if (kind == KEEPER) {
                return step == SOUTH ? 2 : 4;
            }
            return step == SOUTH ? 3 : NOTHING;
        }

        /** Onto lawn or a gate. */
        static int timeOutOfDitch(int kind, int step) {
            if (kind == COLONEL || step != SOUTH) {
                return 1;
            }
            return kind == KEEPER ? 4 : NOTHING;
        }

        static boolean isFallOntoDitch(int kind, int step) {
            return kind == GUEST && step == SOUTH;
        }

        /** 1 if such a walker FALLS by a STEP that he can do, else 0. */
        int fallsFor(int kind, int c, int step) {
            int to = target(c, step);
            return to != NONE && sorts[to] == DITCH && isFallOntoDitch(kind, step) ? 1 : 0;
        }

        void take(Ground other) {
            resize(other.wide, other.deep);
            System.arraycopy(other.sorts, 0, sorts, 0, MOST_PLACES);
        }
    }

    /** All that ACTS change. */
    private static final class Now {
        private final Ground ground = new Ground();
        private final int[] at = new int[MOST_WALKERS];
        private final int[] fell = new int[MOST_WALKERS];
        private final int[] went = new int[MOST_WALKERS];
        private int walkers;

        void begin(Park park) {
            ground.take(park.ground);
            walkers = park.walkers;
            for (int w = 0; w < MOST_WALKERS; w++) {
                at[w] = park.starts[w];
                fell[w] = 0;
                went[w] = 0;
            }
        }

        void take(Now other) {
            ground.take(other.ground);
            walkers = other.walkers;
            System.arraycopy(other.at, 0, at, 0, MOST_WALKERS);
            System.arraycopy(other.fell, 0, fell, 0, MOST_WALKERS);
            System.arraycopy(other.went, 0, went, 0, MOST_WALKERS);
        }

        int walkersAt(int c) {
            int bits = 0;
            for (int w = 0; w < walkers; w++) {
                if (at[w] == c) {
                    bits |= 1 << w;
                }
            }
            return bits;
        }

        /** Does a STEP, if he can. */
        void go(int w, int kind, int step) {
            int time = ground.timeFor(kind, at[w], step);
            if (time != NOTHING) {
                went[w] += time;
                fell[w] += ground.fallsFor(kind, at[w], step);
                at[w] = ground.target(at[w], step);
            }
        }
    }

    /** A park as it was told at first. */
    private static final class Park {
        private final Ground ground = new Ground();
        private int errs;
        private int slips;
        private int rows;
        private int unsureCount;
        private final int[] unsure = new int[MOST_UNSURE];
        private int walkers;
        private final long[] names = new long[MOST_WALKERS];
        private final int[] kinds = new int[MOST_WALKERS];
        private final int[] starts = new int[MOST_WALKERS];
        private final int[] goals = new int[MOST_WALKERS];
        private int walks;
        private final int[] walkStarts = new int[MOST_WALKS];
        private final int[] walkSteps = new int[MOST_WALKS];
        private final boolean[] walkFell = new boolean[MOST_WALKS];

        void clear() {
            ground.resize(0, 0);
            rows = 0;
            unsureCount = 0;
            walkers = 0;
            walks = 0;
        }

        boolean isTold() {
            return ground.wide > 0;
        }

        boolean hasAllRows() {
            return isTold() && rows >= ground.deep;
        }

        boolean isUnsure(int c) {
            return (unsureBits((1 << unsureCount) - 1) >> c & 1) == 1;
        }

        /** A set of unsure PLACES by their order, as bits of PLACES. */
        int unsureBits(int set) {
            int bits = 0;
            for (int k = 0; k < unsureCount; k++) {
                if ((set >> k & 1) == 1) {
                    bits |= 1 << unsure[k];
                }
            }
            return bits;
        }

        boolean hasName(long name) {
            for (int w = 0; w < walkers; w++) {
                if (names[w] == name) {
                    return true;
                }
            }
            return false;
        }

        boolean isToldWrongly(int walk, int ditches) {
            boolean falls = (ground.bitsSouthOf(walkStarts[walk], walkSteps[walk]) & ditches) != 0;
            return falls != walkFell[walk];
        }
    }

    /** THE TAPE, and how a text on it is read. */
    private static final class Tape {
        private static final int ROOM = 800;
        private static final int FED = 20;
        private static final int LONGEST_WORD = 8;
        private static final int LONGEST_WHOLE = 3;

        private static final int FORM = 1;
        private static final int AGAIN = 3;
        private static final int BOUNDS = 4;
        private static final int MANY = 5;
        private static final int LACKS = 6;
        private static final int ON_HEDGE = 7;

        private static final int PARK = 0;
        private static final int ROW = 1;
        private static final int WALKER = 2;
        private static final int WALK = 3;

        private static final int BAD = 0;
        private static final int WORD = 1;
        private static final int WHOLE = 2;
        private static final int MARK = 3;
        private static final int END = 4;

        /** In the order of what they mean: the sorts of ground, then unsure. */
        private static final String ROW_LETTERS = "odghu";

        private final byte[] bytes = new byte[ROOM];
        private int length;
        private int end;
        private int token;
        private int start;
        private int stop;
        private int number;
        private int fault;
        private int faultAt;

        boolean hasRoom() {
            return length + FED <= ROOM;
        }

        void append(int four) {
            if (length + 4 <= ROOM) {
                bytes[length] = (byte) (four >> 24);
                bytes[length + 1] = (byte) (four >> 16);
                bytes[length + 2] = (byte) (four >> 8);
                bytes[length + 3] = (byte) four;
                length += 4;
            }
        }

        /** Reads the first n bytes into a park, and empties THE TAPE; false behind a FAULT. */
        boolean read(int n, Park park) {
            end = Math.min(n, length);
            length = 0;
            stop = 0;
            fault = 0;
            faultAt = NONE;
            park.clear();
            next();
            for (int lines = 0; lines <= ROOM; lines++) {
                boolean fine;
                switch (lineWord()) {
                    case PARK:
                        fine = readPark(park);
                        break;
                    case ROW:
                        fine = readRow(park);
                        break;
                    case WALKER:
                        fine = readWalker(park);
                        break;
                    case WALK:
                        fine = readWalk(park);
                        break;
                    default:
                        fine = wrong(FORM);
                }
                if (!fine) {
                    return false;
                }
                if (token == END) {
                    return park.hasAllRows() || wrong(LACKS);
                }
                if (token != MARK) {
                    return wrong(FORM);
                }
                next();
            }
            return wrong(FORM);
        }

        private boolean readPark(Park park) {
            if (park.isTold()) {
                return wrong(AGAIN);
            }
            next();
            if (!readWord("wide") || !readWhole(2, 5)) {
                return false;
            }
            int wide = number;
            if (!readWord("deep") || !readWhole(2, 4)) {
                return false;
            }
            int deep = number;
            if (!readWord("errs") || !readWhole(0, 100)) {
                return false;
            }
            park.errs = number;
            if (!readWord("slips") || !readWhole(0, 100)) {
                return false;
            }
            park.slips = number;
            park.ground.resize(wide, deep);
            return true;
        }

        private boolean readRow(Park park) {
            if (!park.isTold()) {
                return wrong(LACKS);
            }
            if (park.hasAllRows()) {
                return wrong(MANY);
            }
            next();
            if (!isRow(park.ground.wide)) {
                return wrong(FORM);
            }
            int first = park.rows * park.ground.wide;
            for (int i = 0; i < park.ground.wide; i++) {
                int sort = ROW_LETTERS.indexOf((char) bytes[start + i]);
                if (sort > HEDGE) {
                    if (park.unsureCount == MOST_UNSURE) {
                        return wrong(MANY);
                    }
                    park.unsure[park.unsureCount] = first + i;
                    park.unsureCount++;
                    sort = LAWN;
                }
                park.ground.put(first + i, sort);
            }
            park.rows++;
            next();
            return true;
        }

        private boolean isRow(int wide) {
            if (token != WORD || stop - start != wide) {
                return false;
            }
            for (int i = start; i < stop; i++) {
                if (ROW_LETTERS.indexOf((char) bytes[i]) < 0) {
                    return false;
                }
            }
            return true;
        }

        private boolean readWalker(Park park) {
            if (!park.hasAllRows()) {
                return wrong(LACKS);
            }
            int w = park.walkers;
            if (w == MOST_WALKERS) {
                return wrong(MANY);
            }
            next();
            if (token != WORD || lineWord() != NONE) {
                return wrong(FORM);
            }
            long name = nameCode();
            if (park.hasName(name)) {
                return wrong(AGAIN);
            }
            next();
            int kind = kindOfWord();
            if (kind == NONE) {
                return wrong(FORM);
            }
            next();
            if (!readWord("at") || !readPlace(park.ground, false)) {
                return false;
            }
            park.starts[w] = number;
            if (!readWord("to") || !readPlace(park.ground, false)) {
                return false;
            }
            park.goals[w] = number;
            park.names[w] = name;
            park.kinds[w] = kind;
            park.walkers++;
            return true;
        }

        private boolean readWalk(Park park) {
            if (!park.hasAllRows()) {
                return wrong(LACKS);
            }
            int k = park.walks;
            if (k == MOST_WALKS) {
                return wrong(MANY);
            }
            next();
            if (!readPlace(park.ground, true)) {
                return false;
            }
            int from = number;
            int rowsBelow = (park.ground.count - 1 - from) / park.ground.wide;
            if (!readWord("steps") || !readWhole(1, Math.min(LONGEST_WALK, rowsBelow))) {
                return false;
            }
            boolean fell = isWord("fell");
            if (!fell && !isWord("dry")) {
                return wrong(FORM);
            }
            next();
            park.walkStarts[k] = from;
            park.walkSteps[k] = number;
            park.walkFell[k] = fell;
            park.walks++;
            return true;
        }

        private boolean readWord(String text) {
            if (!isWord(text)) {
                return wrong(FORM);
            }
            next();
            return true;
        }

        private boolean readWhole(int low, int high) {
            if (token != WHOLE) {
                return wrong(FORM);
            }
            number = 0;
            for (int i = start; i < stop; i++) {
                number = number * 10 + bytes[i] - '0';
            }
            if (number < low || number > high) {
                return wrong(BOUNDS);
            }
            next();
            return true;
        }

        /** Reads a column and a row; the number is that of the PLACE then. */
        private boolean readPlace(Ground ground, boolean hedgeToo) {
            if (!readWhole(0, ground.wide - 1)) {
                return false;
            }
            int column = number;
            int second = start;
            if (!readWhole(0, ground.deep - 1)) {
                return false;
            }
            number = number * ground.wide + column;
            if (!hedgeToo && ground.sortAt(number) == HEDGE) {
                start = second;
                return wrong(ON_HEDGE);
            }
            return true;
        }

        /** Which LINE the TOKEN begins; NONE of them. */
        private int lineWord() {
            if (isWord("park")) {
                return PARK;
            }
            if (isWord("row")) {
                return ROW;
            }
            if (isWord("walker")) {
                return WALKER;
            }
            return isWord("walk") ? WALK : NONE;
        }

        private int kindOfWord() {
            if (isWord("guest")) {
                return GUEST;
            }
            if (isWord("child")) {
                return CHILD;
            }
            if (isWord("colonel")) {
                return COLONEL;
            }
            return isWord("keeper") ? KEEPER : NONE;
        }

        private boolean isWord(String text) {
            if (token != WORD || stop - start != text.length()) {
                return false;
            }
            for (int i = 0; i < text.length(); i++) {
                if (bytes[start + i] != text.charAt(i)) {
                    return false;
                }
            }
            return true;
        }

        /** Unlike WORDS have unlike codes: 5 bits a letter, none of them 0. */
        private long nameCode() {
            long code = 0;
            for (int i = start; i < stop; i++) {
                code = code * 32 + (bytes[i] - 'a' + 1);
            }
            return code;
        }

        private boolean wrong(int sort) {
            fault = sort;
            faultAt = start;
            return false;
        }

        /** Looks at the TOKEN behind the one that was looked at. */
        private void next() {
            start = runEnd(stop, ' ', ' ');
            int letters = runEnd(start, 'a', 'z') - start;
            int digits = runEnd(start, '0', '9') - start;
            stop = start + Math.max(letters, digits);
            if (start >= end) {
                token = END;
            } else if (letters > 0) {
                token = letters <= LONGEST_WORD ? WORD : BAD;
            } else if (digits > 0) {
                token = digits <= LONGEST_WHOLE ? WHOLE : BAD;
            } else {
                token = bytes[start] == ';' ? MARK : BAD;
                stop = start + 1;
            }
        }

        /** Behind the bytes from low to high that stand together from a place on. */
        private int runEnd(int from, char low, char high) {
            int i = from;
            while (i < end && bytes[i] >= low && bytes[i] <= high) {
                i++;
            }
            return i;
        }
    }

    /** A QUICK or DRY way. */
    private static final class Way {
        private static final int FAR = 1000000;
        /** More than the minutes or FALLS of any way, which goes nowhere twice. */
        private static final int SCALE = 1000;

        private final int[] targets = new int[MOST_PLACES * STEPS];
        private final int[] weights = new int[MOST_PLACES * STEPS];
        private final int[] left = new int[MOST_PLACES];
        private final int[] steps = new int[MOST_PLACES];
        private final int[] places = new int[MOST_PLACES + 1];
        private final int[] arrivals = new int[MOST_PLACES + 1];
        private int length;
        private int fallCount;

        boolean find(Ground ground, int kind, int from, int to, boolean dry) {
            length = 0;
            fallCount = 0;
            places[0] = from;
            arrivals[0] = 0;
            if (!ground.holds(from) || !ground.holds(to)) {
                return false;
            }
            weigh(ground, kind, dry);
            measure(ground.count, to);
            if (left[from] >= FAR) {
                return false;
            }
            follow(ground, kind, to);
            return true;
        }

        int minutesInAll() {
            return arrivals[length];
        }

        boolean hasStep(int i) {
            return i >= 0 && i < length;
        }

        int placeAfter(int minute) {
            int c = places[0];
            for (int i = 1; i <= length && arrivals[i] <= minute; i++) {
                c = places[i];
            }
            return c;
        }

        boolean touches(int c) {
            for (int i = 0; i <= length; i++) {
                if (places[i] == c) {
                    return true;
                }
            }
            return false;
        }

        /** One weight for minutes and FALLS, of which the first thing to be few counts more. */
        private void weigh(Ground ground, int kind, boolean dry) {
            for (int c = 0; c < ground.count; c++) {
                for (int step = 0; step < STEPS; step++) {
                    int edge = c * STEPS + step;
                    int time = ground.timeFor(kind, c, step);
                    targets[edge] = NONE;
                    if (time != NOTHING) {
                        int falls = ground.fallsFor(kind, c, step);
                        targets[edge] = ground.target(c, step);
                        weights[edge] = dry ? falls * SCALE + time : time * SCALE + falls;
                    }
                }
            }
        }

        /** What is left to go from each PLACE. */
        private void measure(int count, int to) {
            for (int c = 0; c < count; c++) {
                left[c] = c == to ? 0 : FAR;
            }
            boolean better = true;
            for (int round = 0; round < count && better; round++) {
                better = improve(count);
            }
        }

        private boolean improve(int count) {
            boolean better = false;
            for (int edge = 0; edge < count * STEPS; edge++) {
                if (targets[edge] != NONE) {
                    int sum = weights[edge] + left[targets[edge]];
                    if (sum < left[edge / STEPS]) {
                        left[edge / STEPS] = sum;
                        better = true;
                    }
                }
            }
            return better;
        }

        /** The first STEP each time by which nothing is lost makes the first row by STEPS. */
        private void follow(Ground ground, int kind, int to) {
            int c = places[0];
            for (int i = 0; i < MOST_PLACES && c != to; i++) {
                int step = firstStep(c);
                if (step == NONE) {
                    return;
                }
                fallCount += ground.fallsFor(kind, c, step);
                arrivals[i + 1] = arrivals[i] + ground.timeFor(kind, c, step);
                c = targets[c * STEPS + step];
                steps[i] = step;
                places[i + 1] = c;
                length = i + 1;
            }
        }

        private int firstStep(int c) {
            for (int step = 0; step < STEPS; step++) {
                int edge = c * STEPS + step;
                if (targets[edge] != NONE && weights[edge] + left[targets[edge]] == left[c]) {
                    return step;
                }
            }
            return NONE;
        }
    }

    /** Where a walker of some kind can come to, whichever PLACES are ditches. */
    private static final class Flood {
        private final int[] fromLawn = new int[MOST_PLACES];
        private final int[] fromDitch = new int[MOST_PLACES];
        private final int[] ontoDitch = new int[MOST_PLACES];

        void learn(Ground ground, int kind, boolean fallsToo) {
            for (int c = 0; c < ground.count; c++) {
                fromLawn[c] = 0;
                fromDitch[c] = 0;
                ontoDitch[c] = 0;
                for (int step = 0; step < STEPS; step++) {
                    int to = ground.target(c, step);
                    int bit = to == NONE ? 0 : 1 << to;
                    fromLawn[c] |= bit;
                    if (Ground.timeOutOfDitch(kind, step) != NOTHING) {
                        fromDitch[c] |= bit;
                    }
                    boolean lets = fallsToo || !Ground.isFallOntoDitch(kind, step);
                    if (lets && Ground.timeOntoDitch(kind, step) != NOTHING) {
                        ontoDitch[c] |= bit;
                    }
                }
            }
        }

        /** All PLACES that he can come to, those that are barred left out, as bits. */
        int spread(int from, int ditches, int barred) {
            int seen = 1 << from;
            int fresh = seen;
            for (int i = 0; i < MOST_PLACES && fresh != 0; i++) {
                int lowest = fresh & -fresh;
                int c = Integer.bitCount(lowest - 1);
                int open = ((ditches & lowest) == 0 ? fromLawn[c] : fromDitch[c]) & ~ditches | ontoDitch[c] & ditches;
                int more = open & ~seen & ~barred;
                seen |= more;
                fresh = fresh & ~lowest | more;
            }
            return seen;
        }

        boolean comesTo(int from, int to, int ditches, int barred) {
            return (spread(from, ditches, barred) >> to & 1) == 1;
        }
    }

    /** Looks for the fewest PLACES by which something holds. */
    private abstract static class Search {
        private static final int MOST = 3;

        abstract boolean worksBy(int set);

        int fewest(int candidates) {
            for (int many = 0; many <= MOST; many++) {
                int found = leastOf(candidates, many, MOST_PLACES, 0);
                if (found != NOTHING) {
                    return found;
                }
            }
            return NOTHING;
        }

        /** Highest PLACES are chosen first, from low to high: so sets come by their bits. */
        private int leastOf(int candidates, int many, int below, int chosen) {
            if (many <= 0) {
                return worksBy(chosen) ? chosen : NOTHING;
            }
            for (int c = 0; c < below; c++) {
                if ((candidates >> c & 1) == 1) {
                    int found = leastOf(candidates, many - 1, c, chosen | 1 << c);
                    if (found != NOTHING) {
                        return found;
                    }
                }
            }
            return NOTHING;
        }
    }

    /** Hedges by which a walker never comes there. */
    private static final class CutSearch extends Search {
        private final Flood flood = new Flood();
        private int ditches;
        private int from;
        private int to;

        void begin(Ground ground, int kind, int start, int goal) {
            flood.learn(ground, kind, true);
            ditches = ground.bitsOf(DITCH);
            from = start;
            to = goal;
        }

        boolean worksBy(int set) {
            return !flood.comesTo(from, to, ditches, set);
        }
    }

    /** Who has a way without FALL; gates by which each walker has one. */
    private static final class DrySearch extends Search {
        private final Flood[] floods = new Flood[MOST_WALKERS];
        private final int[] starts = new int[MOST_WALKERS];
        private final int[] goals = new int[MOST_WALKERS];
        private int walkers;
        private int ditches;
        private int lost;

        DrySearch() {
            for (int w = 0; w < MOST_WALKERS; w++) {
                floods[w] = new Flood();
            }
        }

        void begin(Park park, Now now) {
            walkers = park.walkers;
            ditches = now.ground.bitsOf(DITCH);
            lost = 0;
            for (int w = 0; w < walkers; w++) {
                floods[w].learn(now.ground, park.kinds[w], false);
                starts[w] = now.at[w];
                goals[w] = park.goals[w];
            }
        }

        /** Walkers with such a way if these PLACES are ditches too, as bits. */
        int walkersBy(int dug) {
            int bits = 0;
            for (int w = 0; w < walkers; w++) {
                if (floods[w].comesTo(starts[w], goals[w], ditches | dug, 0)) {
                    bits |= 1 << w;
                }
            }
            return bits;
        }

        boolean worksBy(int set) {
            // Who had no way by the set before is asked first: he is the likeliest to have none again.
            for (int i = 0; i < walkers; i++) {
                int w = (lost + i) % walkers;
                if (!floods[w].comesTo(starts[w], goals[w], ditches & ~set, 0)) {
                    lost = w;
                    return false;
                }
            }
            return true;
        }
    }

    /** Which sets of unsure PLACES are ditches, by the walks that were told. */
    private static final class Guess {
        private static final int MOST_SETS = 1 << MOST_UNSURE;

        private final int[] ditches = new int[MOST_SETS];
        private final long[] weights = new long[MOST_SETS];
        private int sets;

        void learn(Park park) {
            int sure = park.ground.bitsOf(DITCH);
            sets = 1 << park.unsureCount;
            for (int set = 0; set < sets; set++) {
                ditches[set] = sure | park.unsureBits(set);
                long weight = 1;
                for (int k = 0; k < park.walks; k++) {
                    weight *= park.isToldWrongly(k, ditches[set]) ? park.errs : 100 - park.errs;
                }
                weights[set] = weight;
            }
        }

        int count() {
            int count = 0;
            for (int set = 0; set < sets; set++) {
                count += weights[set] > 0 ? 1 : 0;
            }
            return count;
        }

        /** The i-th FIT; NONE if there are fewer. */
        int ith(int i) {
            int before = 0;
            for (int set = 0; set < sets; set++) {
                if (weights[set] > 0) {
                    if (before == i) {
                        return set;
                    }
                    before++;
                }
            }
            return NONE;
        }

        int heaviest() {
            int best = NOTHING;
            long most = 0;
            for (int set = 0; set < sets; set++) {
                if (weights[set] > most) {
                    most = weights[set];
                    best = set;
                }
            }
            return best;
        }

        long weightOfAll() {
            long sum = 0;
            for (int set = 0; set < sets; set++) {
                sum += weights[set];
            }
            return sum;
        }

        /** Of the sets in which the k-th unsure PLACE is a ditch. */
        long weightOf(int k) {
            long sum = 0;
            for (int set = 0; set < sets; set++) {
                if ((set >> k & 1) == 1) {
                    sum += weights[set];
                }
            }
            return sum;
        }

        /** Of the sets by which one of these PLACES is a ditch. */
        long weightOver(int places) {
            long sum = 0;
            for (int set = 0; set < sets; set++) {
                if ((ditches[set] & places) != 0) {
                    sum += weights[set];
                }
            }
            return sum;
        }

        /** FITS that are left at most, the k-th unsure PLACE being known. */
        int leftAtMost(int k) {
            int with = 0;
            for (int set = 0; set < sets; set++) {
                if (weights[set] > 0 && (set >> k & 1) == 1) {
                    with++;
                }
            }
            return Math.max(with, count() - with);
        }

        /** The first unsure PLACE of which to know leaves fewest at most. */
        int best(int unsureCount) {
            if (count() == 0) {
                return NOTHING;
            }
            int best = NOTHING;
            int fewest = MOST_SETS + 1;
            for (int k = 0; k < unsureCount; k++) {
                int remaining = leftAtMost(k);
                if (remaining < fewest) {
                    fewest = remaining;
                    best = k;
                }
            }
            return best;
        }
    }

    /** An upper and a lower WHOLE in lowest terms. */
    private static final class Fraction {
        private static final int MOST_DIVISIONS = 100;

        private long upper;
        private long lower = 1;

        /** 0 by 1 also if there is nothing to divide by. */
        void put(long above, long below) {
            if (above <= 0 || below <= 0) {
                upper = 0;
                lower = 1;
                return;
            }
            long divisor = above;
            long rest = below;
            for (int i = 0; i < MOST_DIVISIONS && rest != 0; i++) {
                long remainder = divisor % rest;
                divisor = rest;
                rest = remainder;
            }
            upper = above / divisor;
            lower = below / divisor;
        }

        /** How likely something with a chance in a hundred comes just so often in so many times. */
        void putBinomial(int times, int often, int chance) {
            long above = often > times ? 0 : 1;
            for (int i = 1; i <= often; i++) {
                above = above * (times - often + i) / i;
            }
            long below = 1;
            for (int i = 0; i < times; i++) {
                above *= i < often ? chance : 100 - chance;
                below *= 100;
            }
            put(above, below);
        }
    }
}
