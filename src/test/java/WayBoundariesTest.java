/** Ways, hedges, gates, meeting (promises 11 to 27 and 52): nothing there, the first, the last, like ones. */
public final class WayBoundariesTest {
    private static final String[] KINDS = {"guest", "child", "colonel", "keeper"};

    private final Check check = new Check();

    public static void main(String[] args) {
        WayBoundariesTest test = new WayBoundariesTest();
        test.noPark();
        test.noWalker();
        test.noSuchWalker();
        test.noWay();
        test.heIsThere();
        test.stepsOfAWay();
        test.longestWays();
        test.firstRowBySteps();
        test.fallsAgainstMinutes();
        test.minutesAgainstFalls();
        test.reachOfWhomCantMove();
        test.reachInMinutes();
        test.minutesToAnyPlace();
        test.soonestIsByFallsToo();
        test.latestOfLikeOnes();
        test.cutsOf0To3();
        test.cutSparesWhereHeIsAndGoes();
        test.gatesOf0To3();
        test.gatesForAllWalkers();
        test.fallsCountAsWays();
        test.ditchToFill();
        test.sixtyForWhoHasNone();
        test.lawnToDig();
        test.meetings();
        test.meetingsOfNobody();
        test.passersOfAPlace();
        test.walkersWithoutAWay();
        test.check.finish("WayBoundariesTest");
    }

    private static String park(String... rows) {
        StringBuilder text = new StringBuilder("park wide " + rows[0].length() + " deep " + rows.length + " errs 0 slips 0");
        for (String row : rows) {
            text.append(";row ").append(row);
        }
        return text.toString();
    }

    private static String walker(String name, String kind, int column, int row, int toColumn, int toRow) {
        return ";walker " + name + " " + kind + " at " + column + " " + row + " to " + toColumn + " " + toRow;
    }

    private static HahaLawn of(String park, String... walkers) {
        return Check.lawn(park + String.join("", walkers));
    }

    private void nobodyIsTold(String why, HahaLawn x, int w) {
        check.refused("11 " + why, x, x.quick(w), 1);
        check.refused("12 " + why, x, x.quickFalls(w), 1);
        check.refused("13 " + why, x, x.quickAt(w, 0), 1);
        check.refused("14 " + why, x, x.dry(w), 1);
        check.refused("15 " + why, x, x.dryMinutes(w), 1);
        check.refused("16 " + why, x, x.dryAt(w, 0), 1);
        check.refused("17 " + why, x, x.reach(w), 1);
        check.refused("18 " + why, x, x.reachIn(w, 0), 1);
        check.refused("18 " + why + " ahead of a number", x, x.reachIn(w, 100), 1);
        check.refused("19 " + why, x, x.minutesTo(w, 0), 1);
        check.refused("21 " + why, x, x.cut(w), 1);
        check.refused("25 " + why, x, x.meet(w, 0), 1);
        check.refused("25 " + why, x, x.meet(0, w), 1);
        check.refused("26 " + why, x, x.meetAt(w, 0), 1);
        check.refused("26 " + why, x, x.meetAt(0, w), 1);
    }

    private void noPark() {
        HahaLawn x = new HahaLawn();
        nobodyIsTold("no PARK", x, 0);
        check.refused("20 no PARK", x, x.latest(), 1);
        check.refused("22 no PARK", x, x.gates(), 1);
        check.refused("23 no PARK", x, x.toFill(), 1);
        check.refused("24 no PARK", x, x.trap(), 1);
        check.refused("27 no PARK", x, x.passers(0), 1);
        check.due("52 no PARK", Check.ledOr(x, 0, -7), -7);
    }

    private void noWalker() {
        HahaLawn x = of(park("ood", "ood"));
        nobodyIsTold("no walker", x, 0);
        check.told("20 nobody", x, x.latest(), -2);
        check.told("22 nobody needs one", x, x.gates(), 0);
        check.told("23 the first ditch", x, x.toFill(), 2);
        check.told("24 nobody loses one", x, x.trap(), -2);
        check.told("27 nobody", x, x.passers(0), 0);
        check.due("52 nobody", Check.ledOr(x, 0, -7), -7);
    }

    private void noSuchWalker() {
        String text = park("ooo", "ooo");
        for (int many = 1; many <= 4; many++) {
            text += walker("n" + (char) ('a' + many), "guest", 0, 0, 2, 1);
            HahaLawn x = Check.lawn(text);
            check.told("11 the last of " + many, x, x.quick(many - 1), 3);
            for (int w : new int[] {-1, many, 4, Integer.MIN_VALUE, Integer.MAX_VALUE}) {
                nobodyIsTold("walker " + w + " of " + many, x, w);
            }
        }
    }

    private void noWay() {
        for (String kind : KINDS) {
            HahaLawn x = of(park("oho", "oho"), walker("a", kind, 0, 0, 2, 1), walker("b", kind, 0, 0, 0, 1));
            check.told("11 no way", x, x.quick(0), -2);
            check.told("12 no way", x, x.quickFalls(0), -2);
            check.told("14 no way", x, x.dry(0), -2);
            check.told("15 no way", x, x.dryMinutes(0), -2);
            check.refused("13 no way", x, x.quickAt(0, 0), 1);
            check.refused("16 no way", x, x.dryAt(0, 0), 1);
            check.told("19 no way", x, x.minutesTo(0, 5), -2);
            check.told("21 never as it is", x, x.cut(0), 0);
            check.told("22 no gate helps", x, x.gates(), -2);
            check.told("25 one has no way, though both are here", x, x.meet(0, 1), -2);
            check.told("25 nor the other way round", x, x.meet(1, 0), -2);
            check.told("26 likewise", x, x.meetAt(0, 1), -2);
            check.told("26 likewise", x, x.meetAt(1, 0), -2);
            check.told("27 only who has one", x, x.passers(0), 2);
            check.due("52 who has none", Check.ledOr(x, 0, -7), 0);
            x.hedge(3);
            check.told("20 nobody has one", x, x.latest(), -2);
        }
    }

    private void heIsThere() {
        for (String kind : KINDS) {
            HahaLawn x = of(park("od", "oo"), walker("a", kind, 1, 0, 1, 0), walker("b", kind, 0, 0, 0, 0));
            for (int w = 0; w < 2; w++) {
                check.told("11 he is there", x, x.quick(w), 0);
                check.told("12 he is there", x, x.quickFalls(w), 0);
                check.refused("13 no STEP", x, x.quickAt(w, 0), 1);
                check.told("14 he is there", x, x.dry(w), 0);
                check.told("15 he is there", x, x.dryMinutes(w), 0);
                check.refused("16 no STEP", x, x.dryAt(w, 0), 1);
                check.told("21 three aren't enough", x, x.cut(w), -2);
                check.told("27 he is there", x, x.passers(w == 0 ? 1 : 0), w == 0 ? 1 : 2);
            }
            check.told("20 of no minutes, the first", x, x.latest(), 0);
            check.told("22 none needed", x, x.gates(), 0);
            check.told("24 nobody can lose it", x, x.trap(), -2);
            check.told("25 never", x, x.meet(0, 1), -2);
            check.due("52 nobody", Check.ledOr(x, 0, -7), -7);
        }
    }

    private void steps(String what, HahaLawn x, int w, String quick, String dry) {
        for (int i = 0; i < quick.length(); i++) {
            check.told("13 " + what + " " + i, x, x.quickAt(w, i), quick.charAt(i) - '0');
        }
        for (int i = 0; i < dry.length(); i++) {
            check.told("16 " + what + " " + i, x, x.dryAt(w, i), dry.charAt(i) - '0');
        }
        for (int i : new int[] {-1, Integer.MIN_VALUE, Integer.MAX_VALUE}) {
            check.refused("13 " + what + " " + i, x, x.quickAt(w, i), 1);
            check.refused("16 " + what + " " + i, x, x.dryAt(w, i), 1);
        }
        for (int i : new int[] {0, 1, 20, 21}) {
            check.refused("13 " + what + " behind it, " + i, x, x.quickAt(w, quick.length() + i), 1);
            check.refused("16 " + what + " behind it, " + i, x, x.dryAt(w, dry.length() + i), 1);
        }
    }

    private void stepsOfAWay() {
        HahaLawn x = of(park("oo", "oo"), walker("a", "guest", 0, 0, 1, 0), walker("b", "child", 1, 1, 0, 0));
        steps("one STEP", x, 0, "1", "1");
        steps("two STEPS", x, 1, "03", "03");
    }

    /** As long as a way can be: over all 20 PLACES, as walls leave no shorter one; and winding ones among hedges. */
    private void longestWays() {
        String all = "1111033330111103333";
        HahaLawn x = of(park("ddddo", "odddd", "ddddo", "ddddd"), walker("a", "guest", 0, 3, 0, 0),
            walker("b", "guest", 0, 0, 0, 0));
        check.told("11 nineteen", x, x.quick(0), 19);
        check.told("12 without a FALL", x, x.quickFalls(0), 0);
        check.told("14 without a FALL", x, x.dry(0), 0);
        check.told("15 nineteen", x, x.dryMinutes(0), 19);
        steps("nineteen STEPS", x, 0, all, all);
        check.told("17 everywhere", x, x.reach(0), (1 << 20) - 1);
        check.told("18 in 18 all but the last", x, x.reachIn(0, 18), (1 << 20) - 2);
        check.told("18 in 19", x, x.reachIn(0, 19), (1 << 20) - 1);
        check.told("25 in the last minute", x, x.meet(0, 1), 19);
        check.told("26 at the last PLACE", x, x.meetAt(0, 1), 0);
        for (int c = 0; c < 20; c++) {
            check.told("27 he passes " + c, x, x.passers(c), c == 0 ? 3 : 1);
        }
        x = of(park("ooooo", "hhhho", "ooooo", "ohhhh"), walker("a", "child", 0, 0, 0, 3));
        check.told("11 eleven", x, x.quick(0), 11);
        steps("eleven STEPS", x, 0, "11112233332", "11112233332");
        check.told("18 a minute fewer", x, x.reachIn(0, 10), x.reach(0) & ~(1 << 15));
        check.told("18 as many", x, x.reachIn(0, 11), x.reach(0));
        x = of(park("ohooo", "ohoho", "ohoho", "oooho"), walker("a", "guest", 0, 0, 4, 3));
        check.told("11 thirteen", x, x.quick(0), 13);
        steps("thirteen STEPS", x, 0, "2221100011222", "2221100011222");
        // Up the walls: 4 minutes each, three times.
        x = of(park("dh", "dh", "dh", "oh"), walker("a", "keeper", 0, 3, 0, 0), walker("b", "keeper", 0, 0, 0, 3));
        check.told("11 four each", x, x.quick(0), 12);
        check.told("11 two each, four out of it", x, x.quick(1), 8);
    }

    private void firstRowBySteps() {
        HahaLawn x = of(park("ooo", "ooo", "ooo"), walker("a", "colonel", 1, 1, 2, 2), walker("b", "guest", 2, 2, 0, 0),
            walker("c", "child", 0, 2, 2, 0), walker("d", "keeper", 2, 0, 0, 2));
        steps("east ahead of south", x, 0, "12", "12");
        steps("north ahead of west", x, 1, "0033", "0033");
        steps("north ahead of east", x, 2, "0011", "0011");
        steps("south ahead of west", x, 3, "2233", "2233");
    }

    /** Of like minutes the fewest FALLS; of fewer minutes any FALLS. */
    private void fallsAgainstMinutes() {
        HahaLawn x = of(park("oo", "do", "oo"), walker("a", "guest", 0, 0, 0, 1));
        check.told("11 three either way", x, x.quick(0), 3);
        check.told("12 of like ones without", x, x.quickFalls(0), 0);
        steps("round it", x, 0, "123", "123");
        x = of(park("oo", "dh", "dh"), walker("a", "guest", 0, 0, 0, 2));
        check.told("11 two falls", x, x.quick(0), 6);
        check.told("12 two falls", x, x.quickFalls(0), 2);
        x = of(park("ooo", "dho", "ooo"), walker("a", "guest", 0, 0, 0, 1));
        check.told("11 a fall of three minutes ahead of none of seven", x, x.quick(0), 3);
        check.told("12 a fall", x, x.quickFalls(0), 1);
        check.told("14 not by the south, over the wall", x, x.dry(0), 1);
    }

    private void minutesAgainstFalls() {
        // 0 o 1 o 2 o 3 o; 4 d 5 h 6 h 7 o; 8 d 9 o 10 o 11 o
        HahaLawn x = of(park("oooo", "dhho", "dooo"), walker("a", "guest", 0, 0, 0, 2));
        check.told("11", x, x.quick(0), 6);
        check.told("14 no fall", x, x.dry(0), 0);
        check.told("15 though of more minutes", x, x.dryMinutes(0), 8);
        steps("both", x, 0, "22", "11122333");
        x.hedge(7);
        check.told("14 no other way", x, x.dry(0), 2);
        check.told("15 no other way", x, x.dryMinutes(0), 6);
        steps("one", x, 0, "22", "22");
    }

    private void reachOfWhomCantMove() {
        for (String kind : KINDS) {
            HahaLawn x = of(park("oh", "ho"), walker("a", kind, 0, 0, 1, 1));
            check.told("17 where he is", x, x.reach(0), 1);
            check.told("18 where he is", x, x.reachIn(0, 99), 1);
        }
        for (String kind : KINDS) {
            HahaLawn x = of(park("oh", "hd"), walker("a", kind, 1, 1, 0, 0));
            check.told("17 a ditch, where he is", x, x.reach(0), 8);
        }
        HahaLawn x = of(park("dd", "oo"), walker("a", "guest", 0, 1, 0, 0), walker("b", "child", 0, 0, 0, 1),
            walker("c", "child", 1, 1, 0, 0), walker("d", "keeper", 0, 1, 0, 0));
        check.told("17 a guest not up the wall", x, x.reach(0), 0b1100);
        check.told("17 a child in a ditch by the wall and a ditch", x, x.reach(1), 0b0001);
        check.told("17 a child", x, x.reach(2), 0b1100);
        check.told("17 a keeper", x, x.reach(3), 0b1111);
    }

    private void reachInMinutes() {
        HahaLawn x = of(park("oo", "do", "oo"), walker("a", "guest", 0, 0, 0, 2), walker("b", "keeper", 0, 2, 0, 0));
        int[] guest = {0b000001, 0b000011, 0b001011, 0b101111, 0b111111};
        for (int n = 0; n < guest.length; n++) {
            check.told("18 in " + n, x, x.reachIn(0, n), guest[n]);
        }
        int[] keeper = {0b010000, 0b110000, 0b111000, 0b111110, 0b111111};
        for (int n = 0; n < keeper.length; n++) {
            check.told("18 the keeper in " + n, x, x.reachIn(1, n), keeper[n]);
        }
        check.told("18 in 99", x, x.reachIn(0, 99), 0b111111);
        for (int n : new int[] {-1, 100, Integer.MIN_VALUE, Integer.MAX_VALUE}) {
            check.refused("18 in " + n, x, x.reachIn(0, n), 2);
        }
    }

    private void minutesToAnyPlace() {
        HahaLawn x = of(park("oo", "do", "hd"), walker("a", "guest", 0, 0, 0, 0), walker("b", "child", 0, 0, 0, 0));
        int[] guest = {0, 1, 3, 2, -2, 5};
        int[] child = {0, 1, -2, 2, -2, -2};
        for (int c = 0; c < 6; c++) {
            check.told("19 guest to " + c, x, x.minutesTo(0, c), guest[c]);
            check.told("19 child to " + c, x, x.minutesTo(1, c), child[c]);
        }
    }

    /** Two falls take 6 minutes, the way without 8. */
    private void soonestIsByFallsToo() {
        HahaLawn x = of(park("oooo", "dhho", "dooo"), walker("a", "guest", 0, 0, 0, 2), walker("b", "child", 0, 0, 1, 2));
        check.told("19 by falls", x, x.minutesTo(0, 8), 6);
        check.told("18 by falls", x, x.reachIn(0, 6) >> 8 & 1, 1);
        check.told("20 seven minutes ahead of six", x, x.latest(), 1);
    }

    private void latestOfLikeOnes() {
        HahaLawn x = of(park("ooo", "hho"), walker("a", "guest", 0, 0, 0, 0), walker("b", "guest", 0, 0, 2, 0),
            walker("c", "child", 2, 0, 0, 0), walker("d", "keeper", 2, 1, 1, 0));
        check.told("20 the first of two minutes", x, x.latest(), 1);
        x.step(1, 1);
        check.told("20 the next one", x, x.latest(), 2);
        x.step(2, 3);
        x.step(2, 3);
        check.told("20 the last one", x, x.latest(), 3);
        x.step(3, 0);
        check.told("20 of one minute the first", x, x.latest(), 1);
        x.step(1, 1);
        x.step(3, 3);
        check.told("20 all are there", x, x.latest(), 0);
    }

    private void cutsOf0To3() {
        String open = park("ooooo", "ooooo", "ooooo", "ooooo");
        HahaLawn x = of(open, walker("a", "colonel", 0, 0, 3, 2), walker("b", "guest", 0, 1, 3, 1),
            walker("c", "keeper", 1, 1, 3, 2), walker("d", "child", 1, 1, 2, 1));
        check.told("21 two about a corner", x, x.cut(0), 1 << 1 | 1 << 5);
        check.told("21 three about a side", x, x.cut(1), 1 | 1 << 6 | 1 << 10);
        check.told("21 four would be needed", x, x.cut(2), -2);
        check.told("21 he goes to the next one", x, x.cut(3), -2);
        x.hedge(1);
        check.told("21 one is enough", x, x.cut(0), 1 << 5);
        check.told("21 three are enough now", x, x.cut(2), 1 << 5 | 1 << 7 | 1 << 11);
        x.step(1, 1);
        x.hedge(5);
        check.told("21 he never comes there", x, x.cut(0), 0);
        // Two sets of one: the least bits.
        x = of(park("ooo", "hho", "ooo"), walker("a", "child", 0, 0, 0, 2));
        check.told("21 of five the least", x, x.cut(0), 1 << 1);
    }

    private void cutSparesWhereHeIsAndGoes() {
        HahaLawn x = of(park("ohh", "ooo", "hho"), walker("a", "guest", 0, 0, 2, 2), walker("b", "guest", 0, 1, 1, 1),
            walker("c", "guest", 0, 0, 1, 1));
        check.told("21 the first between", x, x.cut(0), 1 << 3);
        check.told("21 none between", x, x.cut(1), -2);
        check.told("21 the one between", x, x.cut(2), 1 << 3);
        // Ditches and gates can be hedges too; a ditch that nobody comes out of needn't be.
        x = of(park("odo", "hgh", "ooo"), walker("a", "keeper", 0, 0, 0, 2), walker("b", "guest", 0, 0, 0, 2));
        check.told("21 a ditch", x, x.cut(0), 1 << 1);
        check.told("21 he can't anyway", x, x.cut(1), 0);
    }

    private void gatesOf0To3() {
        String[] columns = {"o", "d", "d", "d"};
        for (int many = 0; many <= 3; many++) {
            StringBuilder[] rows = new StringBuilder[4];
            for (int y = 0; y < 4; y++) {
                rows[y] = new StringBuilder((y <= many ? columns[y] : "o") + "h");
            }
            HahaLawn x = of(park(rows[0].toString(), rows[1].toString(), rows[2].toString(), rows[3].toString()),
                walker("a", "child", 0, 0, 0, 3));
            check.told("22 " + many, x, x.gates(), many == 0 ? 0 : many == 1 ? 4 : many == 2 ? 4 | 16 : 4 | 16 | 64);
            check.due("22 asking makes none", x.all(2), 0);
        }
        HahaLawn x = of(park("dh", "dh", "dh", "dh"), walker("a", "child", 0, 0, 0, 3));
        check.told("22 four would be needed: out of the first one, too", x, x.gates(), -2);
        x.gate(0);
        check.told("22 three are enough now", x, x.gates(), 4 | 16 | 64);
        x = of(park("odd", "ddd", "ddo"), walker("a", "child", 0, 0, 2, 2));
        check.told("22 three, the least bits", x, x.gates(), 1 << 1 | 1 << 2 | 1 << 5);
        x = of(park("ood", "ddd", "ooo"), walker("a", "guest", 0, 0, 0, 2));
        check.told("22 one, the least bits", x, x.gates(), 1 << 3);
        x = of(park("oo", "oo"), walker("a", "guest", 0, 0, 1, 1));
        check.told("22 no ditch, none needed", x, x.gates(), 0);
    }

    private void gatesForAllWalkers() {
        String land = park("oho", "dhd", "oho");
        HahaLawn x = of(land, walker("a", "guest", 0, 0, 0, 2), walker("b", "child", 2, 0, 2, 2),
            walker("c", "keeper", 0, 2, 0, 0), walker("d", "colonel", 2, 2, 2, 0));
        check.told("22 one each for guest and child", x, x.gates(), 1 << 3 | 1 << 5);
        x.gate(3);
        check.told("22 for the child alone", x, x.gates(), 1 << 5);
        x.gate(5);
        check.told("22 for nobody", x, x.gates(), 0);
        x = of(land, walker("a", "guest", 0, 0, 2, 2), walker("b", "guest", 0, 0, 0, 0));
        check.told("22 one has no way by any", x, x.gates(), -2);
        x = of(land, walker("a", "keeper", 0, 2, 0, 0), walker("b", "colonel", 2, 0, 2, 2));
        check.told("22 those who never FALL need none", x, x.gates(), 0);
        x = of(park("oo", "do", "oh"), walker("a", "guest", 0, 0, 0, 1));
        check.told("22 into a ditch from the side there is no FALL", x, x.gates(), 0);
    }

    /** Where a way is asked for, one by FALLS will do; where one without FALL is, it won't. */
    private void fallsCountAsWays() {
        HahaLawn x = of(park("oh", "dh", "dh"), walker("a", "guest", 0, 0, 0, 2));
        check.told("17 by falls", x, x.reach(0), 0b010101);
        check.told("18 by a fall", x, x.reachIn(0, 3), 0b000101);
        check.told("19 by falls", x, x.minutesTo(0, 4), 6);
        check.told("21 the way by falls is cut", x, x.cut(0), 0b000100);
        check.told("22 gates, as he falls", x, x.gates(), 0b010100);
        check.told("24 he has no way to lose", x, x.trap(), -2);
        check.told("27 he falls there", x, x.passers(2), 1);
        check.due("52 he has a way", Check.ledOr(x, 0, -7), -7);
    }

    private int sum(HahaLawn x, int filled, int walkers, int ifNone) {
        int sum = 0;
        x.fill(filled);
        for (int w = 0; w < walkers; w++) {
            sum += x.quick(w) == -2 ? ifNone : x.quick(w);
        }
        x.undo();
        return sum;
    }

    /** By one ditch three gain so much that it is as good, or not quite, as a way for the fourth. */
    private void sixtyForWhoHasNone() {
        HahaLawn x = of(park("ddgog", "doghd", "dhhhd", "goodd"), walker("a", "guest", 0, 2, 0, 3),
            walker("b", "child", 4, 1, 0, 1), walker("c", "guest", 0, 2, 0, 3), walker("d", "guest", 0, 2, 0, 3));
        check.due("23 three times 19 round it, and 6", sum(x, 5, 4, -1000), 63);
        check.due("23 three times 1, and none", sum(x, 10, 4, 0), 3);
        check.told("23 by 60 both are alike: the first", x, x.toFill(), 5);
        x = of(park("ddgdd", "oghod", "gdhdd", "dodgd"), walker("a", "guest", 4, 1, 4, 0),
            walker("b", "guest", 4, 3, 4, 2), walker("c", "guest", 2, 3, 4, 2), walker("d", "guest", 4, 3, 4, 2));
        check.due("23 all have one", sum(x, 0, 4, -1000), 66);
        check.due("23 and none", sum(x, 14, 4, 0), 5);
        check.told("23 by 60 it is one fewer", x, x.toFill(), 14);
    }

    private void ditchToFill() {
        HahaLawn x = of(park("oo", "oo"), walker("a", "guest", 0, 0, 1, 1));
        check.told("23 no ditch", x, x.toFill(), -2);
        x.dig(2);
        check.told("23 the one ditch, though it changes nothing", x, x.toFill(), 2);
        x.dig(1);
        check.told("23 the first of like ones", x, x.toFill(), 1);
        // a: 3 and 3 minutes into ditches; filled, one of them takes a minute.
        x = of(park("oho", "dhd", "dhd"), walker("a", "guest", 0, 0, 0, 2), walker("b", "child", 2, 0, 2, 1));
        check.told("23 who has none has 60", x, x.toFill(), 5);
        x = of(park("oho", "dhd", "dhd"), walker("a", "guest", 0, 0, 0, 2), walker("b", "child", 2, 0, 2, 2));
        check.told("23 who has none by any", x, x.toFill(), 3);
        check.due("23 asking fills none", x.all(1), 0b101101000);
        x = of(park("ohod", "dhdh"), walker("a", "keeper", 0, 1, 0, 0), walker("b", "guest", 2, 0, 2, 1));
        check.told("23 the last one", x, x.toFill(), 6);
        x = of(park("do", "od"), walker("a", "child", 0, 1, 0, 0), walker("b", "child", 0, 1, 0, 0),
            walker("c", "child", 0, 1, 0, 0), walker("d", "child", 0, 1, 1, 1));
        check.told("23 the first PLACE, by three of four", x, x.toFill(), 0);
        x = of(park("oho", "dhd"), walker("a", "keeper", 0, 0, 0, 1), walker("b", "guest", 2, 0, 2, 1));
        check.told("23 two minutes gained ahead of one", x, x.toFill(), 5);
        x = of(park("oho", "dhd"), walker("a", "guest", 2, 0, 2, 1), walker("b", "keeper", 0, 0, 0, 1));
        check.told("23 also by the first walker", x, x.toFill(), 5);
        x = of(park("oodo", "dhho", "dooo"), walker("a", "guest", 0, 0, 0, 2));
        check.told("23 by the QUICK way, not the DRY one", x, x.toFill(), 4);
    }

    private void lawnToDig() {
        HahaLawn x = of(park("dd", "gg"), walker("a", "guest", 0, 1, 1, 1));
        check.told("24 no lawn", x, x.trap(), -2);
        x = of(park("oh", "oh"), walker("a", "child", 0, 1, 0, 0));
        check.told("24 the first PLACE", x, x.trap(), 0);
        x = of(park("oh", "oh"), walker("a", "guest", 0, 0, 0, 1));
        check.told("24 where he goes", x, x.trap(), 2);
        x.step(0, 2);
        check.told("24 he is there", x, x.trap(), -2);
        x = of(park("oh", "uh"), walker("a", "child", 0, 0, 0, 1));
        check.told("24 an unsure one is lawn", x, x.trap(), 2);
        x = of(park("oho", "oho", "oho"), walker("a", "guest", 0, 0, 0, 2), walker("b", "child", 2, 0, 2, 2));
        check.told("24 the first of like ones", x, x.trap(), 3);
        x.dig(3);
        check.told("24 who has lost it can't again", x, x.trap(), 5);
        check.due("24 asking digs none", x.all(1), 8);
        x = of(park("oho", "oho", "oho"), walker("a", "guest", 0, 0, 0, 2), walker("b", "child", 2, 0, 2, 2),
            walker("c", "child", 2, 1, 2, 2));
        check.told("24 of two, where nobody is", x, x.trap(), 8);
        x = of(park("oo", "oo"), walker("a", "keeper", 0, 0, 0, 1), walker("b", "colonel", 1, 0, 1, 1));
        check.told("24 by none", x, x.trap(), -2);
        x = of(park("ooo", "ooo"), walker("a", "child", 0, 0, 1, 0), walker("b", "child", 0, 0, 2, 1),
            walker("c", "child", 0, 0, 2, 1), walker("d", "child", 0, 0, 2, 1));
        check.told("24 three of four ahead of one", x, x.trap(), 5);
        x = of(park("dh", "oh"), walker("a", "guest", 0, 1, 0, 0));
        check.told("24 nobody has a way to lose", x, x.trap(), -2);
    }

    private void meetings() {
        HahaLawn x = of(park("ooooo", "hhhhd"), walker("a", "guest", 0, 0, 4, 0), walker("b", "child", 4, 0, 0, 0),
            walker("c", "colonel", 3, 0, 0, 0), walker("d", "guest", 4, 0, 4, 1));
        check.told("25 NOW", x, x.meet(1, 3), 0);
        check.told("26 NOW", x, x.meetAt(3, 1), 4);
        check.told("25 half way", x, x.meet(0, 1), 2);
        check.told("26 half way", x, x.meetAt(1, 0), 2);
        check.told("25 past each other", x, x.meet(0, 2), -2);
        check.told("26 past each other", x, x.meetAt(2, 0), -2);
        check.told("25 in the last minute, where one stays", x, x.meet(1, 2), 4);
        check.told("26 in the last minute", x, x.meetAt(2, 1), 0);
        // d needs 3 minutes to be in the ditch, and is at 4 until then.
        x.step(0, 1);
        x.step(0, 1);
        check.told("25 a minute before he is gone", x, x.meet(0, 3), 2);
        x.step(0, 3);
        check.told("25 in the minute in which he is gone", x, x.meet(0, 3), -2);
    }

    private void meetingsOfNobody() {
        HahaLawn x = of(park("oo", "oo"), walker("a", "guest", 0, 0, 1, 1), walker("b", "guest", 0, 0, 1, 1));
        check.told("25 two", x, x.meet(0, 1), 0);
        for (int w = 0; w < 2; w++) {
            check.refused("25 himself", x, x.meet(w, w), 1);
            check.refused("26 himself", x, x.meetAt(w, w), 1);
        }
        for (int w : new int[] {-1, 2, Integer.MAX_VALUE, Integer.MIN_VALUE}) {
            check.refused("25 " + w, x, x.meet(w, 1), 1);
            check.refused("25 " + w, x, x.meet(1, w), 1);
            check.refused("25 " + w, x, x.meet(w, w), 1);
            check.refused("26 " + w, x, x.meetAt(w, 1), 1);
            check.refused("26 " + w, x, x.meetAt(1, w), 1);
            check.refused("26 " + w, x, x.meetAt(w, w), 1);
        }
    }

    private void passersOfAPlace() {
        HahaLawn x = of(park("ooo", "oho"), walker("a", "guest", 0, 0, 2, 0), walker("b", "child", 0, 1, 2, 1),
            walker("c", "keeper", 1, 0, 1, 0), walker("d", "colonel", 2, 1, 2, 0));
        int[] due = {0b0011, 0b0111, 0b1011, 0b0010, 0, 0b1010};
        for (int c = 0; c < 6; c++) {
            check.told("27 at " + c, x, x.passers(c), due[c]);
        }
    }

    private void walkersWithoutAWay() {
        HahaLawn x = of(park("oho", "oho"), walker("a", "guest", 0, 0, 2, 0), walker("b", "child", 0, 0, 0, 1),
            walker("c", "keeper", 0, 0, 2, 1), walker("d", "colonel", 2, 0, 0, 0));
        int[] due = {0, 2, 3};
        for (int i = 0; i < 3; i++) {
            check.due("52 the " + i, Check.ledOr(x, i, -7), due[i]);
        }
        for (int i : new int[] {-1, 3, 4, Integer.MIN_VALUE, Integer.MAX_VALUE}) {
            check.due("52 the " + i, Check.ledOr(x, i, -7), -7);
        }
        check.due("52 tells no number", x.trouble(), 0);
    }
}
