/** Unsure PLACES, two who lie in it, slips, rambles (promises 28 to 43): nothing there, none, all, the last numbers. */
public final class OddsBoundariesTest {
    private static final int[] FAR = {-1, Integer.MIN_VALUE, Integer.MAX_VALUE};

    private final Check check = new Check();

    public static void main(String[] args) {
        OddsBoundariesTest test = new OddsBoundariesTest();
        test.noPark();
        test.noUnsureOne();
        test.noFits();
        test.allFits();
        test.oneFit();
        test.fitsByErrs();
        test.fitsByTheirNumbers();
        test.oddsByErrs();
        test.oddsOfTheDearestPark();
        test.likeliestOfLikeOnes();
        test.treadsThatLeaveFewest();
        test.judgeOfWalks();
        test.asToldAtFirst();
        test.stepsOfWalkOdds();
        test.walksOverSureDitches();
        test.shameOf0To9();
        test.fallsOf0To9();
        test.fallsByOneSlip();
        test.meansOfFalls();
        test.slipsWithoutAWay();
        test.boundsOfRambles();
        test.ramblesBySeeds();
        test.fallsOfRambles();
        test.strayedBehindHowMany();
        test.check.finish("OddsBoundariesTest");
    }

    private static String park(int errs, int slips, String... rows) {
        StringBuilder text = new StringBuilder("park wide " + rows[0].length() + " deep " + rows.length + " errs " + errs
            + " slips " + slips);
        for (String row : rows) {
            text.append(";row ").append(row);
        }
        return text.toString();
    }

    private void odds(String what, HahaLawn x, int k, long upper, long lower) {
        check.told(what + " upper", x, x.odds(k, false), upper);
        check.told(what + " lower", x, x.odds(k, true), lower);
    }

    private void walkOdds(String what, HahaLawn x, int c, int steps, long upper, long lower) {
        check.told(what + " upper", x, x.walkOdds(c, steps, false), upper);
        check.told(what + " lower", x, x.walkOdds(c, steps, true), lower);
    }

    private void fallOdds(String what, HahaLawn x, int often, long upper, long lower) {
        check.told(what + " upper", x, x.fallOdds(0, often, false), upper);
        check.told(what + " lower", x, x.fallOdds(0, often, true), lower);
    }

    private void mean(String what, HahaLawn x, long upper, long lower) {
        check.told(what + " upper", x, x.mean(0, false), upper);
        check.told(what + " lower", x, x.mean(0, true), lower);
    }

    // ---- unsure PLACES

    private void noPark() {
        HahaLawn x = new HahaLawn();
        check.refused("28 no PARK", x, x.fits(), 1);
        check.refused("29 no PARK", x, x.fitAt(0), 1);
        check.refused("30 no PARK", x, x.odds(0, false), 1);
        check.refused("30 no PARK", x, x.odds(0, true), 1);
        check.refused("31 no PARK", x, x.likeliest(), 1);
        check.refused("32 no PARK", x, x.tread(), 1);
        check.refused("33 no PARK", x, x.treadLeaves(), 1);
        check.refused("34 no PARK", x, x.judge(), 1);
        check.refused("35 no PARK", x, x.walkOdds(0, 1, false), 1);
        check.refused("35 no PARK ahead of a number", x, x.walkOdds(0, 0, true), 1);
        check.due("36 no PARK", x.lies(0, false, false, false), -100);
        check.due("36 no PARK trouble", x.trouble(), 1);
        check.due("36 no PARK ahead of a number", x.lies(10, false, false, false), -100);
        check.due("36 no PARK ahead of a number, trouble", x.trouble(), 1);
        check.refused("37 no PARK", x, x.rests(0), 1);
        check.refused("37 no PARK ahead of a number", x, x.rests(-1), 1);
        check.refused("38 no PARK", x, x.rest(0), 1);
        check.refused("38 no PARK ahead of a number", x, x.rest(10), 1);
        check.refused("39 no PARK", x, x.fallOdds(0, 0, false), 1);
        check.refused("40 no PARK", x, x.mean(0, false), 1);
        check.refused("41 no PARK", x, x.ramble(0, 0, 0), 1);
        check.refused("42 no PARK", x, x.rambleFalls(0, 0, 0), 1);
        check.refused("43 no PARK", x, x.strayed(0, 0, 0), 1);
    }

    private void noUnsureOne() {
        HahaLawn x = Check.lawn(park(20, 0, "oo", "od") + ";walk 0 0 steps 1 fell");
        check.told("28 the empty set", x, x.fits(), 1);
        check.told("29 the empty set", x, x.fitAt(0), 0);
        check.refused("29 no other", x, x.fitAt(1), 1);
        check.refused("30 none", x, x.odds(0, false), 1);
        check.told("31 the empty set", x, x.likeliest(), 0);
        check.told("32 no unsure one", x, x.tread(), -2);
        check.told("33 no unsure one", x, x.treadLeaves(), -2);
        check.told("34 told wrongly", x, x.judge(), 0);
        walkOdds("35 surely not", x, 0, 1, 0, 1);
        walkOdds("35 surely", x, 1, 1, 1, 1);
    }

    private void noFits() {
        String walks = ";walk 0 0 steps 1 fell;walk 0 0 steps 1 dry";
        for (int errs = 0; errs <= 100; errs += 100) {
            HahaLawn x = Check.lawn(park(errs, 0, "ooo", "uud") + walks);
            check.told("28 none", x, x.fits(), 0);
            check.refused("29 none", x, x.fitAt(0), 1);
            odds("30 the first, 0 by 1", x, 0, 0, 1);
            odds("30 the last, 0 by 1", x, 1, 0, 1);
            check.refused("30 none such all the same", x, x.odds(2, true), 1);
            check.told("31 no FITS", x, x.likeliest(), -2);
            check.told("32 no FITS", x, x.tread(), -2);
            check.told("33 no FITS", x, x.treadLeaves(), -2);
            check.told("34 the first walk", x, x.judge(), 0);
            walkOdds("35 0 by 1", x, 0, 1, 0, 1);
            walkOdds("35 over a sure ditch 0 by 1 too", x, 2, 1, 0, 1);
            x = Check.lawn(park(errs, 0, "ooo", "ood") + walks);
            check.told("28 without unsure ones none", x, x.fits(), 0);
            check.told("31 without unsure ones", x, x.likeliest(), -2);
            check.told("32 without unsure ones", x, x.tread(), -2);
        }
    }

    private void allFits() {
        HahaLawn x = Check.lawn(park(0, 0, "ooooo", "uuuuu"));
        check.told("28 32", x, x.fits(), 32);
        for (int i = 0; i < 32; i++) {
            check.told("29 the " + i, x, x.fitAt(i), i);
        }
        for (int i : new int[] {-1, 32, 33, Integer.MIN_VALUE, Integer.MAX_VALUE}) {
            check.refused("29 the " + i, x, x.fitAt(i), 1);
        }
        for (int k = 0; k < 5; k++) {
            odds("30 the " + k, x, k, 1, 2);
        }
        for (int k : new int[] {-1, 5, 31, 32, Integer.MIN_VALUE, Integer.MAX_VALUE}) {
            check.refused("30 the " + k, x, x.odds(k, false), 1);
            check.refused("30 the " + k, x, x.odds(k, true), 1);
        }
        check.told("31 the first", x, x.likeliest(), 0);
        check.told("32 the first", x, x.tread(), 0);
        check.told("33 half of them", x, x.treadLeaves(), 16);
        check.told("34 no walk", x, x.judge(), -2);
    }

    private void oneFit() {
        HahaLawn x = Check.lawn(park(0, 0, "oo", "uu") + ";walk 0 0 steps 1 dry;walk 1 0 steps 1 fell");
        check.told("28 one", x, x.fits(), 1);
        check.told("29 the first one is 1, the second 2", x, x.fitAt(0), 2);
        check.refused("29 no more", x, x.fitAt(1), 1);
        odds("30 surely not", x, 0, 0, 1);
        odds("30 surely", x, 1, 1, 1);
        check.told("31 it", x, x.likeliest(), 2);
        check.told("32 the first though nothing is gained", x, x.tread(), 0);
        check.told("33 it is left", x, x.treadLeaves(), 1);
        check.told("34 the second, as unsure ones are lawn", x, x.judge(), 1);
    }

    private void fitsByErrs() {
        for (int errs : new int[] {0, 1, 50, 99, 100}) {
            HahaLawn x = Check.lawn(park(errs, 0, "oo", "uu") + ";walk 0 0 steps 1 fell");
            check.told("28 by errs " + errs, x, x.fits(), errs == 0 || errs == 100 ? 2 : 4);
            check.told("29 the first by errs " + errs, x, x.fitAt(0), errs == 0 ? 1 : 0);
            check.told("29 the second by errs " + errs, x, x.fitAt(1), errs == 0 ? 3 : errs == 100 ? 2 : 1);
        }
    }

    /** Bits go by the order in which unsure ones are told, not by columns. */
    private void fitsByTheirNumbers() {
        HahaLawn x = Check.lawn(park(0, 0, "oou", "uoo", "ouo") + ";walk 0 0 steps 1 fell");
        for (int i = 0; i < 4; i++) {
            check.told("29 with the second, " + i, x, x.fitAt(i), new int[] {2, 3, 6, 7}[i]);
        }
        odds("30 the second is at 3", x, 1, 1, 1);
        walkOdds("35 onto the second", x, 0, 2, 1, 1);
        walkOdds("35 onto the third", x, 1, 2, 1, 2);
        walkOdds("35 from the first, not onto it", x, 2, 1, 0, 1);
    }

    private void oddsByErrs() {
        for (int errs = 0; errs <= 100; errs++) {
            int divisor = 100;
            while (errs % divisor != 0 || 100 % divisor != 0) {
                divisor--;
            }
            HahaLawn x = Check.lawn(park(errs, 0, "oo", "uo") + ";walk 0 0 steps 1 fell");
            odds("30 by errs " + errs, x, 0, (100 - errs) / divisor, 100 / divisor);
            walkOdds("35 by errs " + errs, x, 0, 1, (100 - errs) / divisor, 100 / divisor);
        }
    }

    /** The largest numbers: six walks, and sums over 32 sets. */
    private void oddsOfTheDearestPark() {
        HahaLawn x = Check.lawn(park(1, 0, "ooooo", "uuuuu") + ";walk 4 0 steps 1 dry".repeat(6));
        odds("30 told dry six times", x, 4, 1, 941480149402L);
        odds("30 of which nothing is told", x, 0, 1, 2);
        walkOdds("35 told dry six times", x, 4, 1, 1, 941480149402L);
        x = Check.lawn(park(99, 0, "ooooo", "uuuuu") + ";walk 4 0 steps 1 dry".repeat(6));
        odds("30 told dry wrongly six times", x, 4, 941480149401L, 941480149402L);
        check.told("31 the last one", x, x.likeliest(), 16);
        x = Check.lawn(park(50, 0, "ooooo", "uuuuu") + ";walk 4 0 steps 1 dry".repeat(6));
        odds("30 told anyhow", x, 4, 1, 2);
    }

    private void likeliestOfLikeOnes() {
        HahaLawn x = Check.lawn(park(50, 0, "oo", "uu") + ";walk 0 0 steps 1 fell");
        check.told("31 all are like: the first", x, x.likeliest(), 0);
        x = Check.lawn(park(49, 0, "oo", "uu") + ";walk 1 0 steps 1 fell");
        check.told("31 of two like ones the first", x, x.likeliest(), 2);
        x = Check.lawn(park(51, 0, "oo", "uu") + ";walk 1 0 steps 1 fell");
        check.told("31 told wrongly rather", x, x.likeliest(), 0);
        x = Check.lawn(park(1, 0, "oo", "uu") + ";walk 0 0 steps 1 fell;walk 1 0 steps 1 fell");
        check.told("31 the last", x, x.likeliest(), 3);
    }

    private void treadsThatLeaveFewest() {
        HahaLawn x = Check.lawn(park(0, 0, "ooo", "uuu") + ";walk 0 0 steps 1 fell");
        check.told("32 not the one that is known", x, x.tread(), 1);
        check.told("33 half of four", x, x.treadLeaves(), 2);
        x = Check.lawn(park(0, 0, "oo", "uo", "uo") + ";walk 0 0 steps 2 fell");
        check.told("28 three", x, x.fits(), 3);
        check.told("32 the first of like ones", x, x.tread(), 0);
        check.told("33 two of three at most", x, x.treadLeaves(), 2);
        // 0 over 1 over 2: fell by one of them, and by 1 or 2: 2 parts 4 and 2, 1 the same, 0 parts 3 and 3.
        x = Check.lawn(park(0, 0, "oo", "uo", "uo", "uo") + ";walk 0 1 steps 2 fell");
        check.told("28 six", x, x.fits(), 6);
        check.told("32 the first parts them best", x, x.tread(), 0);
        check.told("33 three", x, x.treadLeaves(), 3);
        x = Check.lawn(park(0, 0, "oo", "uo", "uo", "uo") + ";walk 0 0 steps 2 fell");
        check.told("32 the last parts them best", x, x.tread(), 2);
        check.told("33 three", x, x.treadLeaves(), 3);
        x = Check.lawn(park(0, 0, "oo", "uo"));
        check.told("33 of two one", x, x.treadLeaves(), 1);
    }

    private void judgeOfWalks() {
        String right = ";walk 0 0 steps 1 dry;walk 1 0 steps 1 fell";
        String wrong = ";walk 0 0 steps 1 fell";
        for (int errs : new int[] {0, 50, 100}) {
            String land = park(errs, 0, "oou", "udo", "ooo");
            check.due("34 no walk", Check.lawn(land).judge(), -2);
            check.due("34 none", Check.lawn(land + right + right + right).judge(), -2);
            check.due("34 the first", Check.lawn(land + wrong + right + wrong).judge(), 0);
            check.due("34 the last of six", Check.lawn(land + right + right + ";walk 2 0 steps 2 dry" + wrong).judge(), 5);
            check.due("34 fell, where he began", Check.lawn(land + ";walk 1 1 steps 1 fell").judge(), 0);
            check.due("34 dry over a ditch", Check.lawn(land + right + ";walk 1 0 steps 2 dry").judge(), 2);
        }
    }

    private void asToldAtFirst() {
        HahaLawn x = Check.lawn(park(0, 0, "ooo", "udo", "ooo") + ";walk 0 0 steps 1 dry;walk 1 0 steps 2 fell");
        x.dig(3);
        x.fill(4);
        x.hedge(6);
        check.told("28 acts don't matter", x, x.fits(), 1);
        check.told("29 acts don't matter", x, x.fitAt(0), 0);
        odds("30 acts don't matter", x, 0, 0, 1);
        check.told("31 acts don't matter", x, x.likeliest(), 0);
        check.told("34 acts don't matter", x, x.judge(), -2);
        walkOdds("35 filled, as told at first", x, 1, 1, 1, 1);
        walkOdds("35 dug, as told at first", x, 0, 1, 0, 1);
        walkOdds("35 over a hedge of NOW", x, 0, 2, 0, 1);
        check.due("53 unsure ones", x.size(6), 1);
    }

    private void stepsOfWalkOdds() {
        for (int deep = 2; deep <= 4; deep++) {
            String[] rows = new String[deep];
            java.util.Arrays.fill(rows, "ooo");
            HahaLawn x = Check.lawn(park(0, 0, rows));
            for (int c = 0; c < 3 * deep; c++) {
                for (int steps = -1; steps <= 5; steps++) {
                    boolean fine = steps >= 1 && steps <= 3 && c / 3 + steps < deep;
                    check.due("35 from " + c + " by " + steps, x.walkOdds(c, steps, true), fine ? 1 : -1);
                    check.due("35 from " + c + " by " + steps + " trouble", x.trouble(), fine ? 0 : 2);
                }
            }
            for (int steps : FAR) {
                check.refused("35 by " + steps, x, x.walkOdds(0, steps, false), 2);
            }
            check.refused("35 no such PLACE", x, x.walkOdds(3 * deep, 1, false), 1);
            check.refused("35 no such PLACE ahead of a number", x, x.walkOdds(3 * deep, 0, false), 1);
        }
    }

    private void walksOverSureDitches() {
        HahaLawn x = Check.lawn(park(20, 0, "dod", "ohd", "gdo", "odo"));
        walkOdds("35 from a ditch", x, 0, 3, 0, 1);
        walkOdds("35 over a hedge", x, 1, 1, 0, 1);
        walkOdds("35 over a hedge into a ditch", x, 1, 2, 1, 1);
        walkOdds("35 from a hedge", x, 4, 1, 1, 1);
        walkOdds("35 ditch to ditch", x, 2, 1, 1, 1);
        walkOdds("35 from the last ditch", x, 5, 2, 0, 1);
    }

    // ---- two who lie in it

    private void shameOf0To9() {
        HahaLawn x = Check.lawn(park(0, 0, "oo", "oo"));
        int[] rests = {1, 1, 3, 2, 2, 2, 2, 2, 2, 2};
        int[] first = {11, 11, 1, 1, 1, 1, 1, 1, 1, 1};
        for (int shame = 0; shame <= 9; shame++) {
            for (int k = 0; k < 2; k++) {
                check.told("36 both hear", x, x.lies(shame, true, true, k == 1), 2 - shame);
                check.told("36 both sleep", x, x.lies(shame, false, false, k == 1), 1);
                check.told("36 the one hears", x, x.lies(shame, true, false, k == 1), 4 - 4 * k);
                check.told("36 the other one hears", x, x.lies(shame, false, true, k == 1), 4 * k);
            }
            check.told("37 by " + shame, x, x.rests(shame), rests[shame]);
            check.told("38 by " + shame, x, x.rest(shame), first[shame]);
        }
        for (int shame : new int[] {-1, 10, Integer.MIN_VALUE, Integer.MAX_VALUE}) {
            for (int pair = 0; pair < 8; pair++) {
                check.due("36 by " + shame, x.lies(shame, pair >= 4, pair % 4 >= 2, pair % 2 == 1), -100);
                check.due("36 by " + shame + " trouble", x.trouble(), 2);
            }
            check.refused("37 by " + shame, x, x.rests(shame), 2);
            check.refused("38 by " + shame, x, x.rest(shame), 2);
        }
    }

    // ---- slips

    private static HahaLawn threeFalls(int slips) {
        return Check.lawn(park(0, slips, "oh", "dh", "dh", "dh") + ";walker a guest at 0 0 to 0 3");
    }

    private void fallsOf0To9() {
        HahaLawn x = threeFalls(50);
        int[] eighths = {1, 3, 3, 1};
        for (int often = 0; often <= 9; often++) {
            fallOdds("39 " + often + " times", x, often, often < 4 ? eighths[often] : 0, often < 4 ? 8 : 1);
        }
        for (int often : new int[] {-1, 10, Integer.MIN_VALUE, Integer.MAX_VALUE}) {
            check.refused("39 " + often + " times", x, x.fallOdds(0, often, false), 2);
            check.refused("39 " + often + " times", x, x.fallOdds(0, often, true), 2);
            check.refused("39 no such walker ahead of " + often, x, x.fallOdds(1, often, true), 1);
        }
    }

    private void fallsByOneSlip() {
        HahaLawn x = threeFalls(1);
        fallOdds("39 never by 1", x, 0, 970299, 1000000);
        fallOdds("39 once by 1", x, 1, 29403, 1000000);
        fallOdds("39 twice by 1", x, 2, 297, 1000000);
        fallOdds("39 always by 1", x, 3, 1, 1000000);
        x = threeFalls(99);
        fallOdds("39 never by 99", x, 0, 1, 1000000);
        fallOdds("39 always by 99", x, 3, 970299, 1000000);
        x = threeFalls(10);
        fallOdds("39 once by 10", x, 1, 243, 1000);
        x = threeFalls(0);
        fallOdds("39 never by 0", x, 0, 1, 1);
        fallOdds("39 always by 0", x, 3, 0, 1);
        x = threeFalls(100);
        fallOdds("39 never by 100", x, 0, 0, 1);
        fallOdds("39 twice by 100", x, 2, 0, 1);
        fallOdds("39 always by 100", x, 3, 1, 1);
        fallOdds("39 more by 100", x, 4, 0, 1);
        x = Check.lawn(park(0, 100, "oh", "oh") + ";walker a guest at 0 0 to 0 1");
        fallOdds("39 no FALL", x, 0, 1, 1);
        fallOdds("39 no FALL, once", x, 1, 0, 1);
    }

    private void meansOfFalls() {
        int[][] due = {{0, 0, 1}, {1, 3, 100}, {10, 3, 10}, {50, 3, 2}, {99, 297, 100}, {100, 3, 1}};
        for (int[] row : due) {
            mean("40 by " + row[0], threeFalls(row[0]), row[1], row[2]);
        }
        mean("40 no FALL", Check.lawn(park(0, 100, "oo", "oo") + ";walker a guest at 0 0 to 0 0"), 0, 1);
        // The DRY way, not the QUICK one, which has two.
        mean("40 by the DRY way", Check.lawn(park(0, 100, "oooo", "dhho", "dooo") + ";walker a guest at 0 0 to 0 2"), 0, 1);
    }

    private void slipsWithoutAWay() {
        HahaLawn x = Check.lawn(park(0, 50, "oh", "ho") + ";walker a guest at 0 0 to 1 1");
        for (int often = 0; often <= 9; often += 9) {
            check.refused("39 no way", x, x.fallOdds(0, often, false), 6);
            check.refused("39 no way", x, x.fallOdds(0, often, true), 6);
        }
        check.refused("39 a number ahead of no way", x, x.fallOdds(0, 10, false), 2);
        check.refused("39 no such walker ahead of all", x, x.fallOdds(1, 10, false), 1);
        check.refused("40 no way", x, x.mean(0, false), 6);
        check.refused("40 no way", x, x.mean(0, true), 6);
        check.refused("40 no such walker", x, x.mean(1, true), 1);
        check.refused("40 no such walker", x, x.mean(-1, true), 1);
    }

    // ---- rambles

    private void boundsOfRambles() {
        HahaLawn x = Check.lawn(park(0, 0, "oo", "oo") + ";walker a colonel at 0 0 to 1 1");
        for (int seed : new int[] {0, 65536}) {
            for (int n : new int[] {0, 90}) {
                check.due("41 " + seed + ", " + n, x.ramble(0, seed, n) >= 0 && x.trouble() == 0, true);
                check.told("42 " + seed + ", " + n, x, x.rambleFalls(0, seed, n), 0);
                check.due("43 " + seed + ", " + n, x.strayed(0, seed, n) != -1 && x.trouble() == 0, true);
            }
        }
        int[][] far = {{-1, 0}, {65537, 0}, {0, -1}, {0, 91}, {Integer.MIN_VALUE, 1}, {Integer.MAX_VALUE, 1},
            {1, Integer.MIN_VALUE}, {1, Integer.MAX_VALUE}};
        for (int[] row : far) {
            check.refused("41 " + row[0] + ", " + row[1], x, x.ramble(0, row[0], row[1]), 2);
            check.refused("42 " + row[0] + ", " + row[1], x, x.rambleFalls(0, row[0], row[1]), 2);
            check.refused("43 " + row[0] + ", " + row[1], x, x.strayed(0, row[0], row[1]), 2);
            for (int w : new int[] {-1, 1}) {
                check.refused("41 no such walker ahead", x, x.ramble(w, row[0], row[1]), 1);
                check.refused("42 no such walker ahead", x, x.rambleFalls(w, row[0], row[1]), 1);
                check.refused("43 no such walker ahead", x, x.strayed(w, row[0], row[1]), 1);
            }
        }
    }

    /** A colonel on open lawn goes by the draws alone. */
    private void ramblesBySeeds() {
        HahaLawn x = Check.lawn(park(0, 0, "ooo", "ooo", "ooo") + ";walker a colonel at 1 1 to 2 2");
        for (int seed : new int[] {0, 1, 65535, 65536, 45438, 12345}) {
            long draw = seed;
            int column = 1;
            int row = 1;
            for (int n = 0; n <= 90; n++) {
                if (n < 4 || n > 87) {
                    check.told("41 by " + seed + " behind " + n, x, x.ramble(0, seed, n), row * 3 + column);
                }
                draw = (75 * draw + 74) % 65537;
                column = Math.max(0, Math.min(2, column + (draw % 4 == 1 ? 1 : draw % 4 == 3 ? -1 : 0)));
                row = Math.max(0, Math.min(2, row + (draw % 4 == 2 ? 1 : draw % 4 == 0 ? -1 : 0)));
            }
        }
        check.due("41 he is where he was", x.walker(0, 1), 4);
        check.due("41 no minutes by ACTS", x.walker(0, 4), 0);
        check.due("41 nothing to undo", x.size(7), 0);
    }

    /** Draws of seed 0: south, north, north, south, east, east. */
    private void fallsOfRambles() {
        HahaLawn x = Check.lawn(park(0, 0, "oo", "do") + ";walker a guest at 0 0 to 1 1;walker b keeper at 0 0 to 1 1"
            + ";walker c child at 0 0 to 1 1");
        int[] falls = {0, 1, 1, 1, 2, 2, 2};
        for (int n = 0; n < falls.length; n++) {
            check.told("42 a guest behind " + n, x, x.rambleFalls(0, 0, n), falls[n]);
            check.told("42 a keeper behind " + n, x, x.rambleFalls(1, 0, n), 0);
            check.told("42 a child behind " + n, x, x.rambleFalls(2, 0, n), 0);
        }
        x.step(0, 2);
        check.told("42 not those by ACTS", x, x.rambleFalls(0, 0, 0), 0);
        check.due("7 not those by RAMBLES", x.walker(0, 3), 1);
        check.told("41 a child does no STEP that he can't", x, x.ramble(2, 0, 4), 0);
        check.told("41 and goes on", x, x.ramble(2, 0, 5), 1);
    }

    private void strayedBehindHowMany() {
        HahaLawn x = Check.lawn(park(0, 0, "oo", "oo", "oo", "oo") + ";walker a child at 0 3 to 0 0"
            + ";walker b child at 0 3 to 0 3;walker c child at 0 3 to 1 3;walker d child at 0 3 to 0 2");
        int[] due = {-2, -2, -2, 3, 3, 3};
        for (int n = 0; n < due.length; n++) {
            check.told("43 north alone, " + n, x, x.strayed(0, 65536, n), due[n]);
        }
        check.told("43 the first time, not the last", x, x.strayed(3, 65536, 90), 1);
        for (int n = 0; n <= 90; n += 90) {
            check.told("43 NOW", x, x.strayed(1, 65536, n), 0);
            check.told("43 never", x, x.strayed(2, 65536, n), -2);
        }
    }
}
