import java.math.BigInteger;
import java.util.ArrayDeque;
import java.util.ArrayList;
import java.util.Arrays;
import java.util.Comparator;
import java.util.HashSet;
import java.util.List;
import java.util.NoSuchElementException;
import java.util.Set;
import java.util.TreeMap;

/**
 * The document once more, written with the whole Java library and without thrift: all ways are
 * walked, all sets are tried. RandomRunsTest holds HahaLawn against it.
 */
public final class Naive {
    private static final int[] DX = {0, 1, 0, -1};
    private static final int[] DY = {-1, 0, 1, 0};
    private static final List<String> KINDS = List.of("guest", "child", "colonel", "keeper");

    private record Walk(int column, int row, int steps, boolean fell) { }

    private record Walker(String name, String kind, int start, int goal) { }

    /** A way: the STEPS, and behind each the PLACE and the minute. */
    private record Route(List<Integer> steps, List<Integer> places, List<Integer> times, int falls) {
        int minutes() {
            return times.get(times.size() - 1);
        }
    }

    private static final class Told {
        int wide;
        int deep;
        int errs;
        int slips;
        String letters = "";
        final List<Walker> walkers = new ArrayList<>();
        final List<Walk> walks = new ArrayList<>();

        List<Integer> unsure() {
            List<Integer> list = new ArrayList<>();
            for (int i = 0; i < letters.length(); i++) {
                if (letters.charAt(i) == 'u') {
                    list.add(i);
                }
            }
            return list;
        }
    }

    private record State(String letters, List<Integer> at, List<Integer> fell, List<Integer> went) { }

    private static final class Fault extends RuntimeException {
        private static final long serialVersionUID = 1;
        final int number;
        final int place;

        Fault(int number, int place) {
            this.number = number;
            this.place = place;
        }
    }

    private final StringBuilder tape = new StringBuilder();
    private Told told;
    private State now;
    private final ArrayDeque<State> kept = new ArrayDeque<>();
    private final List<State> images = new ArrayList<>();
    private int trouble;
    private int fault;
    private int faultAt;

    private int no(int number) {
        trouble = number;
        return -1;
    }

    private int yes(int value) {
        trouble = 0;
        return value;
    }

    // ---- the text

    public int feed(int a, int b, int c, int d, int e) {
        if (tape.length() > 780) {
            return -1;
        }
        for (int four : new int[] {a, b, c, d, e}) {
            for (int shift = 24; shift >= 0; shift -= 8) {
                tape.append((char) (four >>> shift & 255));
            }
        }
        return tape.length();
    }

    public int park(int n) {
        if (n < 0 || n > tape.length()) {
            return no(2);
        }
        String text = tape.substring(0, n);
        tape.setLength(0);
        try {
            told = new Reading(text).whole();
        } catch (Fault f) {
            fault = f.number;
            faultAt = f.place;
            return no(4);
        }
        fault = 0;
        List<Integer> at = new ArrayList<>();
        List<Integer> zeros = new ArrayList<>();
        for (Walker w : told.walkers) {
            at.add(w.start);
            zeros.add(0);
        }
        now = new State(told.letters.replace('u', 'o'), at, zeros, zeros);
        kept.clear();
        images.clear();
        return yes(told.wide * told.deep);
    }

    private record Token(String text, int place) { }

    private static final class Reading {
        private final List<Token> tokens = new ArrayList<>();
        private final Told park = new Told();
        private int at = 0;

        Reading(String text) {
            java.util.regex.Matcher m = java.util.regex.Pattern.compile("[a-z]+|[0-9]+|[^ ]").matcher(text);
            while (m.find()) {
                tokens.add(new Token(m.group(), m.start()));
            }
            tokens.add(new Token("", text.length()));
        }

        Told whole() {
            int rows = 0;
            while (true) {
                Token first = tokens.get(at);
                boolean complete = park.wide > 0 && rows == park.deep;
                switch (first.text) {
                    case "park":
                        if (park.wide > 0) {
                            throw new Fault(3, first.place);
                        }
                        at++;
                        word("wide");
                        int wide = whole(2, 5);
                        word("deep");
                        park.deep = whole(2, 4);
                        word("errs");
                        park.errs = whole(0, 100);
                        word("slips");
                        park.slips = whole(0, 100);
                        park.wide = wide;
                        break;
                    case "row":
                        if (park.wide == 0) {
                            throw new Fault(6, first.place);
                        }
                        if (complete) {
                            throw new Fault(5, first.place);
                        }
                        at++;
                        row();
                        rows++;
                        break;
                    case "walker":
                        if (!complete) {
                            throw new Fault(6, first.place);
                        }
                        if (park.walkers.size() == 4) {
                            throw new Fault(5, first.place);
                        }
                        at++;
                        walker();
                        break;
                    case "walk":
                        if (!complete) {
                            throw new Fault(6, first.place);
                        }
                        if (park.walks.size() == 6) {
                            throw new Fault(5, first.place);
                        }
                        at++;
                        int column = whole(0, park.wide - 1);
                        int row = whole(0, park.deep - 1);
                        word("steps");
                        int steps = whole(1, Math.min(3, park.deep - 1 - row));
                        park.walks.add(new Walk(column, row, steps, word("fell", "dry").equals("fell")));
                        break;
                    default:
                        throw new Fault(1, first.place);
                }
                Token behind = tokens.get(at);
                if (behind.text.isEmpty()) {
                    if (park.wide == 0 || rows < park.deep) {
                        throw new Fault(6, behind.place);
                    }
                    return park;
                }
                word(";");
            }
        }

        private void row() {
            Token t = tokens.get(at);
            if (!t.text.matches("[odghu]{" + park.wide + "}")) {
                throw new Fault(1, t.place);
            }
            at++;
            park.letters += t.text;
            if (park.letters.replaceAll("[^u]", "").length() > 5) {
                throw new Fault(5, t.place);
            }
        }

        private void walker() {
            Token name = tokens.get(at);
            if (!name.text.matches("[a-z]{1,8}") || Set.of("park", "row", "walker", "walk").contains(name.text)) {
                throw new Fault(1, name.place);
            }
            if (park.walkers.stream().anyMatch(w -> w.name.equals(name.text))) {
                throw new Fault(3, name.place);
            }
            at++;
            String kind = word(KINDS.toArray(new String[0]));
            word("at");
            int start = openPlace();
            word("to");
            int goal = openPlace();
            park.walkers.add(new Walker(name.text, kind, start, goal));
        }

        private int openPlace() {
            int column = whole(0, park.wide - 1);
            int row = whole(0, park.deep - 1);
            int c = row * park.wide + column;
            if (park.letters.charAt(c) == 'h') {
                throw new Fault(7, tokens.get(at - 1).place);
            }
            return c;
        }

        private String word(String... words) {
            Token t = tokens.get(at);
            if (!Arrays.asList(words).contains(t.text)) {
                throw new Fault(1, t.place);
            }
            at++;
            return t.text;
        }

        private int whole(int low, int high) {
            Token t = tokens.get(at);
            if (!t.text.matches("[0-9]{1,3}")) {
                throw new Fault(1, t.place);
            }
            int value = Integer.parseInt(t.text);
            if (value < low || value > high) {
                throw new Fault(4, t.place);
            }
            at++;
            return value;
        }
    }

    public int fault() {
        return fault;
    }

    public int where() {
        return trouble == 4 ? faultAt : -1;
    }

    // ---- now

    private boolean noPlace(int c) {
        return now == null || c < 0 || c >= told.wide * told.deep;
    }

    private boolean noWalker(int w) {
        return now == null || w < 0 || w >= told.walkers.size();
    }

    private int next(String letters, int c, int step) {
        int x = c % told.wide + DX[step];
        int y = c / told.wide + DY[step];
        if (x < 0 || y < 0 || x >= told.wide || y >= told.deep) {
            return -2;
        }
        int to = y * told.wide + x;
        return letters.charAt(to) == 'h' ? -2 : to;
    }

    /** Minutes and FALLS of a STEP; null if he can't. */
    private int[] price(String letters, String kind, int c, int step) {
        int to = next(letters, c, step);
        if (to < 0) {
            return null;
        }
        boolean onto = letters.charAt(to) == 'd';
        boolean down = onto && step == 2;
        boolean wall = onto && step == 0 || !onto && letters.charAt(c) == 'd' && step == 2;
        int[] plain = {1, 0};
        switch (kind) {
            case "guest":
                return down ? new int[] {3, 1} : wall ? null : plain;
            case "child":
                return onto || wall ? null : plain;
            case "keeper":
                return down ? new int[] {2, 0} : wall ? new int[] {4, 0} : plain;
            default:
                return plain;
        }
    }

    public int place(int c, int what) {
        if (noPlace(c) || what < 0 || what > 3) {
            return no(1);
        }
        switch (what) {
            case 0:
                return yes("odgh".indexOf(now.letters.charAt(c)));
            case 1:
                return yes(told.unsure().contains(c) ? 1 : 0);
            case 2:
                int bits = 0;
                for (int w = 0; w < now.at.size(); w++) {
                    bits += now.at.get(w) == c ? 1 << w : 0;
                }
                return yes(bits);
            default:
                return yes(next(now.letters, c, 2));
        }
    }

    public int walker(int w, int what) {
        if (noWalker(w) || what < 0 || what > 4) {
            return no(1);
        }
        Walker it = told.walkers.get(w);
        return yes(List.of(KINDS.indexOf(it.kind), now.at.get(w), it.goal, now.fell.get(w), now.went.get(w)).get(what));
    }

    public int minutes(int w, int c, int step) {
        return ofStep(w, c, step, 0);
    }

    public int falls(int w, int c, int step) {
        return ofStep(w, c, step, 1);
    }

    private int ofStep(int w, int c, int step, int which) {
        if (noWalker(w) || noPlace(c)) {
            return no(1);
        }
        if (step < 0 || step > 3) {
            return no(2);
        }
        int[] price = price(now.letters, told.walkers.get(w).kind, c, step);
        return yes(price == null ? -2 : price[which]);
    }

    public int all(int sort) {
        if (now == null) {
            return no(1);
        }
        if (sort < 0 || sort > 3) {
            return no(2);
        }
        int bits = 0;
        for (int c = 0; c < now.letters.length(); c++) {
            bits += now.letters.charAt(c) == "odgh".charAt(sort) ? 1 << c : 0;
        }
        return yes(bits);
    }

    // ---- ways

    private List<Route> routes(String letters, String kind, int from, int to) {
        List<Route> found = new ArrayList<>();
        walk(letters, kind, to, new Route(new ArrayList<>(), new ArrayList<>(List.of(from)), new ArrayList<>(List.of(0)), 0), found);
        return found;
    }

    private void walk(String letters, String kind, int to, Route so, List<Route> found) {
        int c = so.places.get(so.places.size() - 1);
        if (c == to) {
            found.add(new Route(List.copyOf(so.steps), List.copyOf(so.places), List.copyOf(so.times), so.falls));
            return;
        }
        for (int step = 0; step < 4; step++) {
            int[] price = price(letters, kind, c, step);
            int on = next(letters, c, step);
            if (price != null && !so.places.contains(on)) {
                so.steps.add(step);
                so.places.add(on);
                so.times.add(so.minutes() + price[0]);
                walk(letters, kind, to, new Route(so.steps, so.places, so.times, so.falls + price[1]), found);
                so.steps.remove(so.steps.size() - 1);
                so.places.remove(so.places.size() - 1);
                so.times.remove(so.times.size() - 1);
            }
        }
    }

    private static int compareSteps(Route a, Route b) {
        for (int i = 0; i < Math.min(a.steps.size(), b.steps.size()); i++) {
            if (!a.steps.get(i).equals(b.steps.get(i))) {
                return a.steps.get(i) - b.steps.get(i);
            }
        }
        return a.steps.size() - b.steps.size();
    }

    private Route best(String letters, int w, boolean dry) {
        Walker it = told.walkers.get(w);
        Comparator<Route> byMinutes = Comparator.comparingInt(Route::minutes);
        Comparator<Route> byFalls = Comparator.comparingInt(Route::falls);
        Comparator<Route> order = dry ? byFalls.thenComparing(byMinutes) : byMinutes.thenComparing(byFalls);
        return routes(letters, it.kind, now.at.get(w), it.goal).stream()
            .min(order.thenComparing(Naive::compareSteps)).orElse(null);
    }

    public int quick(int w) {
        if (noWalker(w)) {
            return no(1);
        }
        Route r = best(now.letters, w, false);
        return yes(r == null ? -2 : r.minutes());
    }

    public int quickFalls(int w) {
        if (noWalker(w)) {
            return no(1);
        }
        Route r = best(now.letters, w, false);
        return yes(r == null ? -2 : r.falls);
    }

    public int quickAt(int w, int i) {
        Route r = noWalker(w) ? null : best(now.letters, w, false);
        return r == null || i < 0 || i >= r.steps.size() ? no(1) : yes(r.steps.get(i));
    }

    public int dry(int w) {
        if (noWalker(w)) {
            return no(1);
        }
        Route r = best(now.letters, w, true);
        return yes(r == null ? -2 : r.falls);
    }

    public int dryMinutes(int w) {
        if (noWalker(w)) {
            return no(1);
        }
        Route r = best(now.letters, w, true);
        return yes(r == null ? -2 : r.minutes());
    }

    public int dryAt(int w, int i) {
        Route r = noWalker(w) ? null : best(now.letters, w, true);
        return r == null || i < 0 || i >= r.steps.size() ? no(1) : yes(r.steps.get(i));
    }

    private int soonest(int w, int c) {
        return routes(now.letters, told.walkers.get(w).kind, now.at.get(w), c).stream()
            .mapToInt(Route::minutes).min().orElse(-2);
    }

    public int reach(int w) {
        return noWalker(w) ? no(1) : yes(within(w, Integer.MAX_VALUE));
    }

    public int reachIn(int w, int n) {
        return noWalker(w) ? no(1) : n < 0 || n > 99 ? no(2) : yes(within(w, n));
    }

    private int within(int w, int n) {
        int bits = 0;
        for (int c = 0; c < now.letters.length(); c++) {
            int needed = soonest(w, c);
            bits += needed >= 0 && needed <= n ? 1 << c : 0;
        }
        return bits;
    }

    public int minutesTo(int w, int c) {
        return noWalker(w) || noPlace(c) ? no(1) : yes(soonest(w, c));
    }

    public int latest() {
        if (now == null) {
            return no(1);
        }
        int most = -1;
        int who = -2;
        for (int w = 0; w < told.walkers.size(); w++) {
            Route r = best(now.letters, w, false);
            if (r != null && r.minutes() > most) {
                most = r.minutes();
                who = w;
            }
        }
        return yes(who);
    }

    // ---- hedges, gates

    private boolean comes(String letters, int w, boolean fallsToo) {
        Walker it = told.walkers.get(w);
        Set<Integer> seen = new HashSet<>();
        ArrayDeque<Integer> open = new ArrayDeque<>();
        open.add(now.at.get(w));
        while (!open.isEmpty()) {
            int c = open.remove();
            if (seen.add(c)) {
                for (int step = 0; step < 4; step++) {
                    int[] price = price(letters, it.kind, c, step);
                    if (price != null && (fallsToo || price[1] == 0)) {
                        open.add(next(letters, c, step));
                    }
                }
            }
        }
        return seen.contains(it.goal);
    }

    private static String with(String letters, int set, char letter) {
        StringBuilder b = new StringBuilder(letters);
        for (int c = 0; c < letters.length(); c++) {
            if ((set >> c & 1) == 1) {
                b.setCharAt(c, letter);
            }
        }
        return b.toString();
    }

    public int cut(int w) {
        if (noWalker(w)) {
            return no(1);
        }
        int allowed = (1 << now.letters.length()) - 1;
        for (int c = 0; c < now.letters.length(); c++) {
            if (now.letters.charAt(c) == 'h' || c == now.at.get(w) || c == told.walkers.get(w).goal) {
                allowed &= ~(1 << c);
            }
        }
        for (int many = 0; many <= 3; many++) {
            for (int set = 0; set < 1 << now.letters.length(); set++) {
                if ((set & ~allowed) == 0 && Integer.bitCount(set) == many && !comes(with(now.letters, set, 'h'), w, true)) {
                    return yes(set);
                }
            }
        }
        return yes(-2);
    }

    public int gates() {
        if (now == null) {
            return no(1);
        }
        for (int many = 0; many <= 3; many++) {
            for (int set = 0; set < 1 << now.letters.length(); set++) {
                if (Integer.bitCount(set) != many || (set & ~bitsOf('d')) != 0) {
                    continue;
                }
                boolean each = true;
                for (int w = 0; w < told.walkers.size(); w++) {
                    each &= comes(with(now.letters, set, 'g'), w, false);
                }
                if (each) {
                    return yes(set);
                }
            }
        }
        return yes(-2);
    }

    private int bitsOf(char letter) {
        int bits = 0;
        for (int c = 0; c < now.letters.length(); c++) {
            bits += now.letters.charAt(c) == letter ? 1 << c : 0;
        }
        return bits;
    }

    public int toFill() {
        if (now == null) {
            return no(1);
        }
        TreeMap<Integer, Integer> firstBySum = new TreeMap<>();
        for (int c = 0; c < now.letters.length(); c++) {
            if (now.letters.charAt(c) == 'd') {
                int sum = 0;
                for (int w = 0; w < told.walkers.size(); w++) {
                    Route r = best(with(now.letters, 1 << c, 'o'), w, false);
                    sum += r == null ? 60 : r.minutes();
                }
                firstBySum.putIfAbsent(sum, c);
            }
        }
        return yes(firstBySum.isEmpty() ? -2 : firstBySum.firstEntry().getValue());
    }

    public int trap() {
        if (now == null) {
            return no(1);
        }
        int most = 0;
        int where = -2;
        for (int c = 0; c < now.letters.length(); c++) {
            if (now.letters.charAt(c) == 'o' && !now.at.contains(c)) {
                int losers = 0;
                for (int w = 0; w < told.walkers.size(); w++) {
                    boolean before = comes(now.letters, w, false);
                    losers += before && !comes(with(now.letters, 1 << c, 'd'), w, false) ? 1 : 0;
                }
                if (losers > most) {
                    most = losers;
                    where = c;
                }
            }
        }
        return yes(where);
    }

    // ---- meeting

    private static int after(Route r, int minute) {
        int place = -9;
        for (int i = 0; i < r.times.size(); i++) {
            if (r.times.get(i) <= minute) {
                place = r.places.get(i);
            }
        }
        return place;
    }

    private int[] meeting(int w, int other) {
        Route a = best(now.letters, w, false);
        Route b = best(now.letters, other, false);
        for (int minute = 0; a != null && b != null && minute < 200; minute++) {
            if (after(a, minute) == after(b, minute)) {
                return new int[] {minute, after(a, minute)};
            }
        }
        return new int[] {-2, -2};
    }

    public int meet(int w, int other) {
        return noWalker(w) || noWalker(other) || w == other ? no(1) : yes(meeting(w, other)[0]);
    }

    public int meetAt(int w, int other) {
        return noWalker(w) || noWalker(other) || w == other ? no(1) : yes(meeting(w, other)[1]);
    }

    public int passers(int c) {
        if (noPlace(c)) {
            return no(1);
        }
        int bits = 0;
        for (int w = 0; w < told.walkers.size(); w++) {
            Route r = best(now.letters, w, false);
            bits += r != null && r.places.contains(c) ? 1 << w : 0;
        }
        return yes(bits);
    }

    // ---- unsure places

    private boolean fallsOn(int set, int column, int row, int steps) {
        List<Integer> unsure = told.unsure();
        for (int i = 1; i <= steps; i++) {
            int c = (row + i) * told.wide + column;
            int k = unsure.indexOf(c);
            if (told.letters.charAt(c) == 'd' || k >= 0 && (set >> k & 1) == 1) {
                return true;
            }
        }
        return false;
    }

    private BigInteger weight(int set) {
        BigInteger product = BigInteger.ONE;
        for (Walk walk : told.walks) {
            boolean right = fallsOn(set, walk.column, walk.row, walk.steps) == walk.fell;
            product = product.multiply(BigInteger.valueOf(right ? 100 - told.errs : told.errs));
        }
        return product;
    }

    private List<Integer> fitting() {
        List<Integer> sets = new ArrayList<>();
        for (int set = 0; now != null && set < 1 << told.unsure().size(); set++) {
            if (weight(set).signum() > 0) {
                sets.add(set);
            }
        }
        return sets;
    }

    private long part(BigInteger upper, BigInteger lower, boolean low) {
        trouble = 0;
        if (upper.signum() == 0 || lower.signum() == 0) {
            return low ? 1 : 0;
        }
        return (low ? lower : upper).divide(upper.gcd(lower)).longValueExact();
    }

    public int fits() {
        return now == null ? no(1) : yes(fitting().size());
    }

    public int fitAt(int i) {
        List<Integer> sets = fitting();
        return i < 0 || i >= sets.size() ? no(1) : yes(sets.get(i));
    }

    public long odds(int k, boolean lower) {
        if (now == null || k < 0 || k >= told.unsure().size()) {
            return no(1);
        }
        BigInteger some = BigInteger.ZERO;
        BigInteger sum = BigInteger.ZERO;
        for (int set : fitting()) {
            sum = sum.add(weight(set));
            some = (set >> k & 1) == 1 ? some.add(weight(set)) : some;
        }
        return part(some, sum, lower);
    }

    public int likeliest() {
        if (now == null) {
            return no(1);
        }
        int best = -2;
        for (int set : fitting()) {
            if (best < 0 || weight(set).compareTo(weight(best)) > 0) {
                best = set;
            }
        }
        return yes(best);
    }

    private int[] treading() {
        int[] best = {-2, -2};
        List<Integer> sets = fitting();
        for (int k = 0; !sets.isEmpty() && k < told.unsure().size(); k++) {
            int with = 0;
            int without = 0;
            for (int set : sets) {
                with += set >> k & 1;
                without += 1 - (set >> k & 1);
            }
            if (best[0] < 0 || Math.max(with, without) < best[1]) {
                best = new int[] {k, Math.max(with, without)};
            }
        }
        return best;
    }

    public int tread() {
        return now == null ? no(1) : yes(treading()[0]);
    }

    public int treadLeaves() {
        return now == null ? no(1) : yes(treading()[1]);
    }

    public int judge() {
        if (now == null) {
            return no(1);
        }
        for (int k = 0; k < told.walks.size(); k++) {
            Walk walk = told.walks.get(k);
            if (fallsOn(0, walk.column, walk.row, walk.steps) != walk.fell) {
                return yes(k);
            }
        }
        return yes(-2);
    }

    public long walkOdds(int c, int steps, boolean lower) {
        if (noPlace(c)) {
            return no(1);
        }
        if (steps < 1 || steps > 3 || c / told.wide + steps >= told.deep) {
            return no(2);
        }
        BigInteger some = BigInteger.ZERO;
        BigInteger sum = BigInteger.ZERO;
        for (int set : fitting()) {
            sum = sum.add(weight(set));
            some = fallsOn(set, c % told.wide, c / told.wide, steps) ? some.add(weight(set)) : some;
        }
        return part(some, sum, lower);
    }

    // ---- two who lie in it

    private static int[] pays(int shame, boolean one, boolean other) {
        if (one && other) {
            return new int[] {2 - shame, 2 - shame};
        }
        if (one || other) {
            return new int[] {one ? 4 : 0, other ? 4 : 0};
        }
        return new int[] {1, 1};
    }

    private List<Integer> resting(int shame) {
        List<Integer> list = new ArrayList<>();
        for (boolean one : new boolean[] {false, true}) {
            for (boolean other : new boolean[] {false, true}) {
                int[] here = pays(shame, one, other);
                if (pays(shame, !one, other)[0] <= here[0] && pays(shame, one, !other)[1] <= here[1]) {
                    list.add((one ? 10 : 0) + (other ? 1 : 0));
                }
            }
        }
        return list;
    }

    public int lies(int shame, boolean one, boolean other, boolean ofOther) {
        if (now == null || shame < 0 || shame > 9) {
            no(now == null ? 1 : 2);
            return -100;
        }
        return yes(pays(shame, one, other)[ofOther ? 1 : 0]);
    }

    public int rests(int shame) {
        return now == null ? no(1) : shame < 0 || shame > 9 ? no(2) : yes(resting(shame).size());
    }

    public int rest(int shame) {
        if (now == null || shame < 0 || shame > 9) {
            return no(now == null ? 1 : 2);
        }
        return yes(resting(shame).isEmpty() ? -2 : resting(shame).get(0));
    }

    // ---- slips, rambles

    public long fallOdds(int w, int often, boolean lower) {
        if (noWalker(w)) {
            return no(1);
        }
        if (often < 0 || often > 9) {
            return no(2);
        }
        Route r = best(now.letters, w, true);
        if (r == null) {
            return no(6);
        }
        BigInteger some = BigInteger.ZERO;
        for (int outcome = 0; outcome < 1 << r.falls; outcome++) {
            if (Integer.bitCount(outcome) == often) {
                some = some.add(BigInteger.valueOf(told.slips).pow(often)
                    .multiply(BigInteger.valueOf(100 - told.slips).pow(r.falls - often)));
            }
        }
        return part(some, BigInteger.valueOf(100).pow(r.falls), lower);
    }

    public long mean(int w, boolean lower) {
        if (noWalker(w)) {
            return no(1);
        }
        Route r = best(now.letters, w, true);
        if (r == null) {
            return no(6);
        }
        return part(BigInteger.valueOf((long) r.falls * told.slips), BigInteger.valueOf(100), lower);
    }

    /** Where, FALLS, and the first arrival. */
    private int[] rambling(int w, int seed, int n) {
        Walker it = told.walkers.get(w);
        int c = now.at.get(w);
        int falls = 0;
        int first = c == it.goal ? 0 : -2;
        long draw = seed;
        for (int i = 1; i <= n; i++) {
            draw = (75L * draw + 74) % 65537;
            int[] price = price(now.letters, it.kind, c, (int) (draw % 4));
            if (price != null) {
                falls += price[1];
                c = next(now.letters, c, (int) (draw % 4));
            }
            first = first == -2 && c == it.goal ? i : first;
        }
        return new int[] {c, falls, first};
    }

    private int ofRamble(int w, int seed, int n, int which) {
        if (noWalker(w)) {
            return no(1);
        }
        return seed < 0 || seed > 65536 || n < 0 || n > 90 ? no(2) : yes(rambling(w, seed, n)[which]);
    }

    public int ramble(int w, int seed, int n) {
        return ofRamble(w, seed, n, 0);
    }

    public int rambleFalls(int w, int seed, int n) {
        return ofRamble(w, seed, n, 1);
    }

    public int strayed(int w, int seed, int n) {
        return ofRamble(w, seed, n, 2);
    }

    // ---- acts

    private void act(State then) {
        kept.addLast(now);
        if (kept.size() > 16) {
            kept.removeFirst();
        }
        now = then;
    }

    private static List<Integer> plus(List<Integer> list, int w, int more) {
        List<Integer> copy = new ArrayList<>(list);
        copy.set(w, copy.get(w) + more);
        return copy;
    }

    public int step(int w, int step) {
        if (noWalker(w)) {
            return no(1);
        }
        if (step < 0 || step > 3) {
            return no(2);
        }
        int c = now.at.get(w);
        int[] price = price(now.letters, told.walkers.get(w).kind, c, step);
        if (price == null) {
            return no(6);
        }
        int to = next(now.letters, c, step);
        act(new State(now.letters, plus(now.at, w, to - c), plus(now.fell, w, price[1]), plus(now.went, w, price[0])));
        return yes(to);
    }

    private boolean turn(int c, char from, char to, boolean empty) {
        if (noPlace(c)) {
            no(1);
            return false;
        }
        if (now.letters.charAt(c) != from || empty && now.at.contains(c)) {
            no(5);
            return false;
        }
        act(new State(with(now.letters, 1 << c, to), now.at, now.fell, now.went));
        yes(0);
        return true;
    }

    public boolean dig(int c) {
        return turn(c, 'o', 'd', false);
    }

    public boolean fill(int c) {
        return turn(c, 'd', 'o', false);
    }

    public boolean gate(int c) {
        return turn(c, 'd', 'g', false);
    }

    public boolean hedge(int c) {
        return turn(c, 'o', 'h', true);
    }

    public boolean undo() {
        if (kept.isEmpty()) {
            no(6);
            return false;
        }
        now = kept.removeLast();
        yes(0);
        return true;
    }

    public int image() {
        if (now == null) {
            return no(1);
        }
        if (images.size() == 3) {
            return no(3);
        }
        images.add(now);
        return yes(images.size() - 1);
    }

    public boolean back(int image) {
        if (image < 0 || image >= images.size()) {
            no(1);
            return false;
        }
        now = images.get(image);
        kept.clear();
        yes(0);
        return true;
    }

    // ---- what is told

    public int led(int i) throws NoSuchElementException {
        List<Integer> lost = new ArrayList<>();
        for (int w = 0; now != null && w < told.walkers.size(); w++) {
            if (best(now.letters, w, false) == null) {
                lost.add(w);
            }
        }
        if (i < 0 || i >= lost.size()) {
            throw new NoSuchElementException();
        }
        return lost.get(i);
    }

    public int size(int what) {
        if (what < 0 || what > 9) {
            return -1;
        }
        if (what == 9) {
            return tape.length();
        }
        if (now == null) {
            return 0;
        }
        return List.of(told.wide, told.deep, told.errs, told.slips, told.walkers.size(), told.walks.size(),
            told.unsure().size(), kept.size(), images.size()).get(what);
    }

    public int trouble() {
        return trouble;
    }
}
