import java.util.ArrayList;
import java.util.List;

/**
 * TROUBLE (Terms IV, promise 54): behind each call that may be refused its number, behind those that weren't 0; a refused
 * call, and one that only asks, changes nothing else. Each is called on a new object whose state is full of all
 * sorts, which is then held against the state of one on which it wasn't called.
 */
public final class RefusalsTest {
    private static final int NONE = HahaLawn.NONE;

    /*
     *   0 o  1 o  2 h  3 o
     *   4 d  5 d  6 g  7 u
     *   8 o  9 o 10 o 11 o
     * a: guest at 0 to 8, b: child at 1 to 9 (no way), c: keeper at 10 to 0
     */
    private static final String PARK = "park wide 4 deep 3 errs 20 slips 50;row ooho;row ddgu;row oooo"
        + ";walker a guest at 0 0 to 0 2;walker b child at 1 0 to 1 2;walker c keeper at 2 2 to 0 0"
        + ";walk 3 0 steps 1 fell;walk 0 0 steps 2 dry";
    private static final String ON_TAPE = "park wide 2 deep 2 errs 0 slips 0;row oo;row od         ";
    private static final int[] FAR = {-1, Integer.MIN_VALUE, Integer.MAX_VALUE};

    private record Row(String name, long due, int number, Check.Call call) { }

    private final Check check = new Check();
    private final List<Row> rows = new ArrayList<>();

    public static void main(String[] args) {
        RefusalsTest test = new RefusalsTest();
        test.onABareOne();
        test.onAFullOne();
        test.onesNotRefused();
        test.onesThatTellNoNumber();
        test.check.finish("RefusalsTest");
    }

    private static long bit(boolean b) {
        return b ? 1 : 0;
    }

    private void row(String name, long due, int number, Check.Call call) {
        rows.add(new Row(name, due, number, call));
    }

    /** An object that has something of all there is: 16 ACTS kept, IMAGES, a FAULT, bytes on THE TAPE. */
    private static HahaLawn full(int images) {
        HahaLawn x = Check.lawn(PARK);
        x.dig(8);
        x.image();
        for (int i = 0; i < 15; i++) {
            x.step(2, i % 2 == 0 ? 1 : 3);
            if (i == 7 && images > 1) {
                x.image();
            }
        }
        x.fill(8);
        x.hedge(9);
        if (images > 2) {
            x.image();
        }
        x.step(2, 3);
        Check.tell(x, "park wide 9");
        Check.feed(x, ON_TAPE);
        return x;
    }

    /** All that can be seen, TROUBLE but for: first by asking, then by UNDO, IMAGES and THE TAPE. */
    private static String stateOf(HahaLawn x) {
        StringBuilder text = new StringBuilder("fault " + x.fault());
        for (int what = 0; what <= 9; what++) {
            text.append(' ').append(x.size(what));
        }
        for (int c = 0; c < 12; c++) {
            for (int what = 0; what <= 3; what++) {
                text.append(' ').append(x.place(c, what));
            }
        }
        text.append(" walkers");
        for (int w = 0; w < 3; w++) {
            text.append(' ').append(x.walker(w, 0)).append(' ').append(x.walker(w, 2)).append(' ').append(x.quick(w));
        }
        text.append(" guess ").append(x.fits()).append(' ').append(x.judge()).append(' ').append(x.odds(0, true));
        shortly(x, text);
        for (int i = 0; i < 17; i++) {
            text.append(" undo ").append(x.undo());
            shortly(x, text);
        }
        for (int i = 0; i < 3; i++) {
            text.append(" back ").append(x.back(i));
            shortly(x, text);
        }
        text.append(" park ").append(x.park(x.size(9))).append(' ').append(x.fault()).append(' ').append(x.all(1));
        return text.toString();
    }

    private static void shortly(HahaLawn x, StringBuilder text) {
        text.append(" ground");
        for (int sort = 1; sort <= 3; sort++) {
            text.append(' ').append(x.all(sort));
        }
        for (int w = 0; w < 3; w++) {
            text.append(' ').append(x.walker(w, 1)).append(' ').append(x.walker(w, 3)).append(' ').append(x.walker(w, 4));
        }
    }

    private interface Maker {
        HahaLawn make();
    }

    private void go(String where, Maker maker) {
        String due = stateOf(maker.make());
        for (Row row : rows) {
            String name = where + ", " + row.name;
            HahaLawn x = maker.make();
            check.due(name, row.call.on(x), row.due);
            check.due(name + " trouble", x.trouble(), row.number);
            check.due(name + " where", x.where(), NONE);
            check.due(name + " state", stateOf(x), due);
            x = maker.make();
            x.place(-1, 0);
            row.call.on(x);
            check.due(name + " trouble behind 1", x.trouble(), row.number);
            x.park(801);
            row.call.on(x);
            check.due(name + " trouble behind 2", x.trouble(), row.number);
            x.place(0, 0);
            row.call.on(x);
            check.due(name + " trouble behind one that wasn't", x.trouble(), row.number);
        }
        rows.clear();
    }

    // ---- no PARK

    private void onABareOne() {
        row("park -1", NONE, 2, x -> x.park(-1));
        row("park 1", NONE, 2, x -> x.park(1));
        row("place", NONE, 1, x -> x.place(0, 0));
        row("walker", NONE, 1, x -> x.walker(0, 0));
        row("minutes", NONE, 1, x -> x.minutes(0, 0, 0));
        row("minutes by 4", NONE, 1, x -> x.minutes(0, 0, 4));
        row("falls", NONE, 1, x -> x.falls(0, 0, 0));
        row("falls by 4", NONE, 1, x -> x.falls(0, 0, 4));
        row("all", NONE, 1, x -> x.all(0));
        row("all 4", NONE, 1, x -> x.all(4));
        row("quick", NONE, 1, x -> x.quick(0));
        row("quickFalls", NONE, 1, x -> x.quickFalls(0));
        row("quickAt", NONE, 1, x -> x.quickAt(0, 0));
        row("dry", NONE, 1, x -> x.dry(0));
        row("dryMinutes", NONE, 1, x -> x.dryMinutes(0));
        row("dryAt", NONE, 1, x -> x.dryAt(0, 0));
        row("reach", NONE, 1, x -> x.reach(0));
        row("reachIn", NONE, 1, x -> x.reachIn(0, 0));
        row("minutesTo", NONE, 1, x -> x.minutesTo(0, 0));
        row("latest", NONE, 1, x -> x.latest());
        row("cut", NONE, 1, x -> x.cut(0));
        row("gates", NONE, 1, x -> x.gates());
        row("toFill", NONE, 1, x -> x.toFill());
        row("trap", NONE, 1, x -> x.trap());
        row("meet", NONE, 1, x -> x.meet(0, 1));
        row("meetAt", NONE, 1, x -> x.meetAt(0, 1));
        row("passers", NONE, 1, x -> x.passers(0));
        row("fits", NONE, 1, x -> x.fits());
        row("fitAt", NONE, 1, x -> x.fitAt(0));
        row("odds", NONE, 1, x -> x.odds(0, false));
        row("likeliest", NONE, 1, x -> x.likeliest());
        row("tread", NONE, 1, x -> x.tread());
        row("treadLeaves", NONE, 1, x -> x.treadLeaves());
        row("judge", NONE, 1, x -> x.judge());
        row("walkOdds", NONE, 1, x -> x.walkOdds(0, 1, false));
        row("lies", -100, 1, x -> x.lies(0, true, true, true));
        row("rests", NONE, 1, x -> x.rests(0));
        row("rest", NONE, 1, x -> x.rest(0));
        row("fallOdds", NONE, 1, x -> x.fallOdds(0, 0, false));
        row("mean", NONE, 1, x -> x.mean(0, false));
        row("ramble", NONE, 1, x -> x.ramble(0, 0, 0));
        row("rambleFalls", NONE, 1, x -> x.rambleFalls(0, 0, 0));
        row("strayed", NONE, 1, x -> x.strayed(0, 0, 0));
        row("step", NONE, 1, x -> x.step(0, 0));
        row("dig", 0, 1, x -> bit(x.dig(0)));
        row("fill", 0, 1, x -> bit(x.fill(0)));
        row("gate", 0, 1, x -> bit(x.gate(0)));
        row("hedge", 0, 1, x -> bit(x.hedge(0)));
        row("undo", 0, 6, x -> bit(x.undo()));
        row("image", NONE, 1, x -> x.image());
        row("back", 0, 1, x -> bit(x.back(0)));
        go("bare", HahaLawn::new);
    }

    // ---- a PARK with 12 PLACES, 3 walkers, 1 unsure one, 3 IMAGES

    private void onAFullOne() {
        for (int bad : FAR) {
            refuseNumbers(bad);
            refuseWalkers(bad);
            refusePlaces(bad);
        }
        refuseWalkers(3);
        refusePlaces(12);
        row("park 801", NONE, 2, x -> x.park(801));
        row("park of a byte more", NONE, 2, x -> x.park(x.size(9) + 1));
        row("place what 4", NONE, 1, x -> x.place(0, 4));
        row("walker what 5", NONE, 1, x -> x.walker(0, 5));
        row("minutes 4", NONE, 2, x -> x.minutes(0, 0, 4));
        row("falls 4", NONE, 2, x -> x.falls(0, 0, 4));
        row("all 4", NONE, 2, x -> x.all(4));
        row("quickAt behind it", NONE, 1, x -> x.quickAt(2, 4));
        row("quickAt, no way", NONE, 1, x -> x.quickAt(1, 0));
        row("dryAt behind it", NONE, 1, x -> x.dryAt(2, 4));
        row("dryAt, no way", NONE, 1, x -> x.dryAt(1, 0));
        row("reachIn 100", NONE, 2, x -> x.reachIn(0, 100));
        row("meet himself", NONE, 1, x -> x.meet(1, 1));
        row("meetAt himself", NONE, 1, x -> x.meetAt(1, 1));
        row("fitAt 2", NONE, 1, x -> x.fitAt(2));
        row("odds 1", NONE, 1, x -> x.odds(1, true));
        row("walkOdds 0", NONE, 2, x -> x.walkOdds(0, 0, true));
        row("walkOdds out of the park", NONE, 2, x -> x.walkOdds(4, 2, true));
        row("walkOdds 3 out of the park", NONE, 2, x -> x.walkOdds(0, 3, true));
        row("walkOdds 4", NONE, 2, x -> x.walkOdds(0, 4, true));
        row("lies 10", -100, 2, x -> x.lies(10, true, true, true));
        row("rests 10", NONE, 2, x -> x.rests(10));
        row("rest 10", NONE, 2, x -> x.rest(10));
        row("fallOdds 10", NONE, 2, x -> x.fallOdds(0, 10, true));
        row("fallOdds, no way", NONE, 6, x -> x.fallOdds(1, 0, true));
        row("mean, no way", NONE, 6, x -> x.mean(1, true));
        row("ramble by 65537", NONE, 2, x -> x.ramble(0, 65537, 1));
        row("ramble 91", NONE, 2, x -> x.ramble(0, 0, 91));
        row("rambleFalls by 65537", NONE, 2, x -> x.rambleFalls(0, 65537, 1));
        row("rambleFalls 91", NONE, 2, x -> x.rambleFalls(0, 0, 91));
        row("strayed by 65537", NONE, 2, x -> x.strayed(0, 65537, 1));
        row("strayed 91", NONE, 2, x -> x.strayed(0, 0, 91));
        row("step 4", NONE, 2, x -> x.step(0, 4));
        row("step out of the park", NONE, 6, x -> x.step(0, 0));
        row("step onto a hedge", NONE, 6, x -> x.step(1, 1));
        row("step of a child onto a ditch", NONE, 6, x -> x.step(1, 2));
        row("dig a ditch", 0, 5, x -> bit(x.dig(4)));
        row("dig a gate", 0, 5, x -> bit(x.dig(6)));
        row("dig a hedge", 0, 5, x -> bit(x.dig(2)));
        row("fill lawn", 0, 5, x -> bit(x.fill(0)));
        row("fill a gate", 0, 5, x -> bit(x.fill(6)));
        row("fill a hedge", 0, 5, x -> bit(x.fill(2)));
        row("gate at lawn", 0, 5, x -> bit(x.gate(0)));
        row("gate at a gate", 0, 5, x -> bit(x.gate(6)));
        row("gate at a hedge", 0, 5, x -> bit(x.gate(2)));
        row("hedge at a ditch", 0, 5, x -> bit(x.hedge(4)));
        row("hedge at a gate", 0, 5, x -> bit(x.hedge(6)));
        row("hedge at a hedge", 0, 5, x -> bit(x.hedge(2)));
        row("hedge where somebody is", 0, 5, x -> bit(x.hedge(0)));
        row("image, no room", NONE, 3, x -> x.image());
        row("back to 3", 0, 1, x -> bit(x.back(3)));
        go("full", () -> full(3));
        row("back to 2 of 2", 0, 1, x -> bit(x.back(2)));
        go("two IMAGES", () -> full(2));
    }

    /** Numbers that aren't let in anywhere, in calls whose walker or PLACE is one. */
    private void refuseNumbers(int bad) {
        row("park " + bad, NONE, 2, x -> x.park(bad));
        row("place what " + bad, NONE, 1, x -> x.place(0, bad));
        row("walker what " + bad, NONE, 1, x -> x.walker(0, bad));
        row("minutes " + bad, NONE, 2, x -> x.minutes(0, 0, bad));
        row("falls " + bad, NONE, 2, x -> x.falls(0, 0, bad));
        row("all " + bad, NONE, 2, x -> x.all(bad));
        row("quickAt " + bad, NONE, 1, x -> x.quickAt(0, bad));
        row("dryAt " + bad, NONE, 1, x -> x.dryAt(0, bad));
        row("reachIn " + bad, NONE, 2, x -> x.reachIn(0, bad));
        row("fitAt " + bad, NONE, 1, x -> x.fitAt(bad));
        row("odds " + bad, NONE, 1, x -> x.odds(bad, true));
        row("walkOdds " + bad, NONE, 2, x -> x.walkOdds(0, bad, true));
        row("lies " + bad, -100, 2, x -> x.lies(bad, true, true, true));
        row("rests " + bad, NONE, 2, x -> x.rests(bad));
        row("rest " + bad, NONE, 2, x -> x.rest(bad));
        row("fallOdds " + bad, NONE, 2, x -> x.fallOdds(0, bad, true));
        row("ramble by " + bad, NONE, 2, x -> x.ramble(0, bad, 1));
        row("ramble " + bad, NONE, 2, x -> x.ramble(0, 0, bad));
        row("rambleFalls by " + bad, NONE, 2, x -> x.rambleFalls(0, bad, 1));
        row("rambleFalls " + bad, NONE, 2, x -> x.rambleFalls(0, 0, bad));
        row("strayed by " + bad, NONE, 2, x -> x.strayed(0, bad, 1));
        row("strayed " + bad, NONE, 2, x -> x.strayed(0, 0, bad));
        row("step " + bad, NONE, 2, x -> x.step(0, bad));
        row("back " + bad, 0, 1, x -> bit(x.back(bad)));
    }

    /** A walker that there isn't, ahead of numbers that aren't let in. */
    private void refuseWalkers(int w) {
        row("walker " + w, NONE, 1, x -> x.walker(w, 0));
        row("minutes of " + w, NONE, 1, x -> x.minutes(w, 0, 4));
        row("falls of " + w, NONE, 1, x -> x.falls(w, 0, 4));
        row("quick of " + w, NONE, 1, x -> x.quick(w));
        row("quickFalls of " + w, NONE, 1, x -> x.quickFalls(w));
        row("quickAt of " + w, NONE, 1, x -> x.quickAt(w, 0));
        row("dry of " + w, NONE, 1, x -> x.dry(w));
        row("dryMinutes of " + w, NONE, 1, x -> x.dryMinutes(w));
        row("dryAt of " + w, NONE, 1, x -> x.dryAt(w, 0));
        row("reach of " + w, NONE, 1, x -> x.reach(w));
        row("reachIn of " + w, NONE, 1, x -> x.reachIn(w, 100));
        row("minutesTo of " + w, NONE, 1, x -> x.minutesTo(w, 0));
        row("cut of " + w, NONE, 1, x -> x.cut(w));
        row("meet of " + w, NONE, 1, x -> x.meet(w, 0));
        row("meet with " + w, NONE, 1, x -> x.meet(0, w));
        row("meetAt of " + w, NONE, 1, x -> x.meetAt(w, 0));
        row("meetAt with " + w, NONE, 1, x -> x.meetAt(0, w));
        row("fallOdds of " + w, NONE, 1, x -> x.fallOdds(w, 10, false));
        row("mean of " + w, NONE, 1, x -> x.mean(w, false));
        row("ramble of " + w, NONE, 1, x -> x.ramble(w, -1, 91));
        row("rambleFalls of " + w, NONE, 1, x -> x.rambleFalls(w, -1, 91));
        row("strayed of " + w, NONE, 1, x -> x.strayed(w, -1, 91));
        row("step of " + w, NONE, 1, x -> x.step(w, 4));
    }

    /** A PLACE that there isn't, ahead of numbers that aren't let in. */
    private void refusePlaces(int c) {
        row("place " + c, NONE, 1, x -> x.place(c, 0));
        row("minutes from " + c, NONE, 1, x -> x.minutes(0, c, 4));
        row("falls from " + c, NONE, 1, x -> x.falls(0, c, 4));
        row("minutesTo " + c, NONE, 1, x -> x.minutesTo(0, c));
        row("passers at " + c, NONE, 1, x -> x.passers(c));
        row("walkOdds from " + c, NONE, 1, x -> x.walkOdds(c, 0, true));
        row("dig " + c, 0, 1, x -> bit(x.dig(c)));
        row("fill " + c, 0, 1, x -> bit(x.fill(c)));
        row("gate " + c, 0, 1, x -> bit(x.gate(c)));
        row("hedge " + c, 0, 1, x -> bit(x.hedge(c)));
    }

    // ---- calls that aren't refused: 0, also where there is nothing (-2), and by asking nothing changes

    private void onesNotRefused() {
        for (int what = 0; what <= 3; what++) {
            int k = what;
            row("place what " + k, new int[] {0, 0, 1, 4}[k], 0, x -> x.place(0, k));
        }
        row("place to the south, none", -2, 0, x -> x.place(11, 3));
        for (int what = 0; what <= 4; what++) {
            int k = what;
            row("walker what " + k, new int[] {0, 0, 8, 0, 0}[k], 0, x -> x.walker(0, k));
        }
        row("minutes", 3, 0, x -> x.minutes(0, 0, 2));
        row("minutes, he can't", -2, 0, x -> x.minutes(0, 0, 0));
        row("falls", 1, 0, x -> x.falls(0, 0, 2));
        row("falls, he can't", -2, 0, x -> x.falls(0, 0, 0));
        row("all", 0b110000, 0, x -> x.all(1));
        row("quick", -2, 0, x -> x.quick(1));
        row("quickFalls", -2, 0, x -> x.quickFalls(1));
        row("quickAt", 0, 0, x -> x.quickAt(2, 0));
        row("dry", -2, 0, x -> x.dry(1));
        row("dryMinutes", -2, 0, x -> x.dryMinutes(1));
        row("dryAt", 0, 0, x -> x.dryAt(2, 0));
        row("reach of a child", 0b11, 0, x -> x.reach(1));
        row("reachIn 0", 1, 0, x -> x.reachIn(0, 0));
        row("reachIn 99", 0b11, 0, x -> x.reachIn(1, 99));
        row("minutesTo", 1, 0, x -> x.minutesTo(0, 1));
        row("minutesTo, never", -2, 0, x -> x.minutesTo(0, 2));
        row("latest", 2, 0, x -> x.latest());
        row("cut, never as it is", 0, 0, x -> x.cut(1));
        row("cut of a keeper", 0b100000, 0, x -> x.cut(2));
        row("gates, for hedges", -2, 0, x -> x.gates());
        row("toFill", 4, 0, x -> x.toFill());
        row("trap", -2, 0, x -> x.trap());
        row("meet", -2, 0, x -> x.meet(0, 1));
        row("meetAt", -2, 0, x -> x.meetAt(0, 1));
        row("passers", 0, 0, x -> x.passers(2));
        row("fits", 2, 0, x -> x.fits());
        row("fitAt 0", 0, 0, x -> x.fitAt(0));
        row("fitAt 1", 1, 0, x -> x.fitAt(1));
        row("odds upper", 4, 0, x -> x.odds(0, false));
        row("odds lower", 5, 0, x -> x.odds(0, true));
        row("likeliest", 1, 0, x -> x.likeliest());
        row("tread", 0, 0, x -> x.tread());
        row("treadLeaves", 1, 0, x -> x.treadLeaves());
        row("judge", 0, 0, x -> x.judge());
        row("walkOdds upper", 4, 0, x -> x.walkOdds(3, 2, false));
        row("walkOdds lower", 5, 0, x -> x.walkOdds(3, 2, true));
        row("lies", -7, 0, x -> x.lies(9, true, true, false));
        row("rests", 2, 0, x -> x.rests(9));
        row("rest", 1, 0, x -> x.rest(9));
        row("fallOdds", 0, 0, x -> x.fallOdds(2, 9, false));
        row("mean", 0, 0, x -> x.mean(2, false));
        row("ramble", 4, 0, x -> x.ramble(0, 0, 1));
        row("rambleFalls", 1, 0, x -> x.rambleFalls(0, 0, 1));
        row("strayed", -2, 0, x -> x.strayed(0, 0, 1));
        go("not refused", () -> full(3));
    }

    /** feed, fault, where, led, size, trouble: TROUBLE stays whatever it was. */
    private void onesThatTellNoNumber() {
        Check.Call[] befores = {x -> x.place(0, 0), x -> x.place(-1, 0), x -> x.all(9), x -> x.image(),
            x -> Check.tell(x, "row"), x -> bit(x.dig(4)), x -> x.mean(1, true)};
        Check.Call[] calls = {x -> x.feed(0, 0, 0, 0, 0), x -> x.fault(), x -> x.where(), x -> Check.ledOr(x, 0, -7),
            x -> Check.ledOr(x, 9, -7), x -> x.size(0), x -> x.size(10), x -> x.trouble()};
        int[] numbers = {0, 1, 2, 3, 4, 5, 6};
        for (int i = 0; i < befores.length; i++) {
            HahaLawn x = full(3);
            befores[i].on(x);
            for (int k = 0; k < calls.length; k++) {
                calls[k].on(x);
                check.due("54 behind " + i + ", " + k, x.trouble(), numbers[i]);
                check.due("5 behind " + i + ", " + k, x.where(), numbers[i] == 4 ? 0 : NONE);
            }
            while (x.feed(0, 0, 0, 0, 0) != NONE) {
                check.due("54 behind a feed", x.trouble(), numbers[i]);
            }
            check.due("54 behind a feed too many", x.trouble(), numbers[i]);
        }
        check.due("54 a new object", new HahaLawn().trouble(), 0);
    }
}
