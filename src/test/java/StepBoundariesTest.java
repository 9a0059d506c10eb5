/** STEPS (Terms II, promises 6 to 10 and 44): those that there aren't, those over walls, for each kind. */
public final class StepBoundariesTest {
    private static final int NONE = HahaLawn.NONE;
    private static final String[] KINDS = {"guest", "child", "colonel", "keeper"};
    private static final String SORTS = "odgh";

    /**
     * Minutes from lawn, ditch, gate (rows of three) onto lawn, ditch, gate; x: he can't, F: 3 minutes and he FALLS.
     * Of each kind by STEPS: north, east, south, west.
     */
    private static final String[][] MINUTES = {
        {"1x1 1x1 1x1", "111 111 111", "1F1 xFx 1F1", "111 111 111"},
        {"1x1 1x1 1x1", "1x1 1x1 1x1", "1x1 xxx 1x1", "1x1 1x1 1x1"},
        {"111 111 111", "111 111 111", "111 111 111", "111 111 111"},
        {"141 141 141", "111 111 111", "121 424 121", "111 111 111"}};

    private final Check check = new Check();

    public static void main(String[] args) {
        StepBoundariesTest test = new StepBoundariesTest();
        for (int kind = 0; kind < 4; kind++) {
            for (int step = 0; step < 4; step++) {
                test.stepsAmongSorts(kind, step);
            }
            test.noneOutOfThePark(kind, 5, 4);
            test.noneOutOfThePark(kind, 2, 2);
            test.noneOutOfThePark(kind, 3, 2);
            test.unsureIsLawn(kind);
        }
        test.stepNumbers();
        test.placesOfAPark();
        test.whatOfAPlace();
        test.toTheSouth();
        test.whatOfAWalker();
        test.sortsOfAll();
        test.check.finish("StepBoundariesTest");
    }

    private static String open(int wide, int deep) {
        return "park wide " + wide + " deep " + deep + " errs 0 slips 0" + (";row " + "o".repeat(wide)).repeat(deep);
    }

    /** From the middle of a park of 3 by 3; a walker who is there, and one who isn't. */
    private void stepsAmongSorts(int kind, int step) {
        int[] around = {1, 5, 7, 3};
        for (int from = 0; from < 3; from++) {
            for (int onto = 0; onto < 4; onto++) {
                StringBuilder letters = new StringBuilder("ooooooooo");
                letters.setCharAt(4, SORTS.charAt(from));
                letters.setCharAt(around[step], SORTS.charAt(onto));
                HahaLawn x = Check.lawn("park wide 3 deep 3 errs 0 slips 0;row " + letters.substring(0, 3) + ";row "
                    + letters.substring(3, 6) + ";row " + letters.substring(6) + ";walker a " + KINDS[kind]
                    + " at 1 1 to 0 0");
                char sign = onto == 3 ? 'x' : MINUTES[kind][step].charAt(from * 4 + onto);
                String what = KINDS[kind] + " by " + step + " from " + SORTS.charAt(from) + " onto " + SORTS.charAt(onto);
                int minutes = sign == 'x' ? -2 : sign == 'F' ? 3 : sign - '0';
                int falls = sign == 'x' ? -2 : sign == 'F' ? 1 : 0;
                check.told("8 " + what, x, x.minutes(0, 4, step), minutes);
                check.told("9 " + what, x, x.falls(0, 4, step), falls);
                if (sign == 'x') {
                    check.refused("44 " + what, x, x.step(0, step), 6);
                    check.due("44 he stays", x.walker(0, 1), 4);
                    check.due("44 nothing to undo", x.size(7), 0);
                } else {
                    check.told("44 " + what, x, x.step(0, step), around[step]);
                    check.due("7 minutes of a " + what, x.walker(0, 4), minutes);
                    check.due("7 falls of a " + what, x.walker(0, 3), falls);
                }
            }
        }
    }

    private void noneOutOfThePark(int kind, int wide, int deep) {
        String park = open(wide, deep) + ";walker a " + KINDS[kind] + " at ";
        for (int c = 0; c < wide * deep; c++) {
            int column = c % wide;
            int row = c / wide;
            HahaLawn x = Check.lawn(park + column + " " + row + " to 0 0");
            int[] to = {row > 0 ? c - wide : NONE, column < wide - 1 ? c + 1 : NONE, row < deep - 1 ? c + wide : NONE,
                column > 0 ? c - 1 : NONE};
            for (int step = 0; step < 4; step++) {
                String what = KINDS[kind] + " from " + c + " by " + step;
                check.told("8 " + what, x, x.minutes(0, c, step), to[step] == NONE ? -2 : 1);
                check.told("9 " + what, x, x.falls(0, c, step), to[step] == NONE ? -2 : 0);
                check.due("44 " + what, x.step(0, step), to[step]);
                check.due("54 " + what, x.trouble(), to[step] == NONE ? 6 : 0);
                x.undo();
            }
            check.told("6 to the south of " + c, x, x.place(c, 3), to[2] == NONE ? -2 : to[2]);
        }
    }

    private void unsureIsLawn(int kind) {
        HahaLawn x = Check.lawn("park wide 2 deep 2 errs 0 slips 0;row ou;row uu;walker a " + KINDS[kind] + " at 0 0 to 1 1");
        check.due("8 onto an unsure one", x.minutes(0, 0, 2), 1);
        check.due("9 onto an unsure one", x.falls(0, 0, 2), 0);
        check.due("8 from an unsure one to the south", x.minutes(0, 1, 2), 1);
        check.due("8 onto an unsure one to the north", x.minutes(0, 3, 0), 1);
        check.due("11 over unsure ones", x.quick(0), 2);
        check.due("10 lawn", x.all(0), 15);
        x.dig(2);
        int[] minutes = {3, -2, 1, 2};
        check.due("8 dug, it is a ditch", x.minutes(0, 0, 2), minutes[kind]);
        check.due("6 dug, it was still told to be unsure", x.place(2, 1), 1);
    }

    private void stepNumbers() {
        HahaLawn x = Check.lawn(open(3, 3) + ";walker a colonel at 1 1 to 0 0");
        for (int step = 0; step <= 3; step++) {
            check.told("8 step " + step, x, x.minutes(0, 4, step), 1);
            check.told("9 step " + step, x, x.falls(0, 4, step), 0);
        }
        for (int step : new int[] {-1, 4, 5, -4, Integer.MIN_VALUE, Integer.MAX_VALUE}) {
            check.refused("8 step " + step, x, x.minutes(0, 4, step), 2);
            check.refused("9 step " + step, x, x.falls(0, 4, step), 2);
            check.refused("44 step " + step, x, x.step(0, step), 2);
            check.refused("8 no such walker ahead of step " + step, x, x.minutes(1, 4, step), 1);
            check.refused("8 no such PLACE ahead of step " + step, x, x.minutes(0, 9, step), 1);
            check.refused("9 no such walker ahead of step " + step, x, x.falls(-1, 4, step), 1);
            check.refused("9 no such PLACE ahead of step " + step, x, x.falls(0, -1, step), 1);
            check.refused("44 no such walker ahead of step " + step, x, x.step(1, step), 1);
        }
    }

    /** Each call that a PLACE is told to: the first, the last, and those on both sides. */
    private void placesOfAPark() {
        int[][] sizes = {{2, 2}, {3, 4}, {5, 4}};
        for (int[] size : sizes) {
            int count = size[0] * size[1];
            HahaLawn x = Check.lawn(open(size[0], size[1]) + ";walker a child at 0 0 to 1 1");
            for (int c : new int[] {0, count - 1}) {
                check.told("6 " + c, x, x.place(c, 0), 0);
                check.told("8 " + c, x, x.minutes(0, c, c == 0 ? 1 : 3), 1);
                check.told("9 " + c, x, x.falls(0, c, c == 0 ? 2 : 0), 0);
                check.told("19 " + c, x, x.minutesTo(0, c), c == 0 ? 0 : size[0] + size[1] - 2);
                check.told("27 " + c, x, x.passers(c), c == 0 || count == 4 ? 1 : 0);
            }
            check.told("35 the first", x, x.walkOdds(0, 1, true), 1);
            check.told("45 the last", x, x.dig(count - 1) ? 1 : 0, 1);
            check.told("46 the last", x, x.fill(count - 1) ? 1 : 0, 1);
            x.dig(count - 1);
            check.told("47 the last", x, x.gate(count - 1) ? 1 : 0, 1);
            x.undo();
            x.undo();
            check.told("48 the last", x, x.hedge(count - 1) ? 1 : 0, 1);
            check.told("45 the first, though somebody is there", x, x.dig(0) ? 1 : 0, 1);
            for (int c : new int[] {-1, count, count + 1, 20, 31, 32, Integer.MIN_VALUE, Integer.MAX_VALUE}) {
                check.refused("6 " + c, x, x.place(c, 0), 1);
                check.refused("8 " + c, x, x.minutes(0, c, 0), 1);
                check.refused("9 " + c, x, x.falls(0, c, 0), 1);
                check.refused("19 " + c, x, x.minutesTo(0, c), 1);
                check.refused("27 " + c, x, x.passers(c), 1);
                check.refused("35 " + c, x, x.walkOdds(c, 1, false), 1);
                check.refused("45 " + c, x, x.dig(c), 1);
                check.refused("46 " + c, x, x.fill(c), 1);
                check.refused("47 " + c, x, x.gate(c), 1);
                check.refused("48 " + c, x, x.hedge(c), 1);
            }
        }
    }

    private void whatOfAPlace() {
        HahaLawn x = Check.lawn("park wide 2 deep 2 errs 0 slips 0;row od;row gh;walker a guest at 0 0 to 1 0"
            + ";walker b guest at 1 0 to 1 0;walker c child at 0 1 to 1 0;walker d child at 0 0 to 1 0");
        int[][] due = {{0, 0, 0b1001, 2}, {1, 0, 0b0010, -2}, {2, 0, 0b0100, -2}, {3, 0, 0, -2}};
        for (int c = 0; c < 4; c++) {
            for (int what = 0; what < 4; what++) {
                check.told("6 PLACE " + c + " what " + what, x, x.place(c, what), due[c][what]);
            }
            for (int what : new int[] {-1, 4, Integer.MIN_VALUE, Integer.MAX_VALUE}) {
                check.refused("6 what " + what, x, x.place(c, what), 1);
            }
        }
        check.due("6 nobody but all four", Check.lawn(open(2, 2) + ";walker a guest at 1 1 to 0 0;walker b guest at 1 1 to 0 0"
            + ";walker c guest at 1 1 to 0 0;walker d guest at 1 1 to 0 0").place(3, 2), 15);
    }

    private void toTheSouth() {
        HahaLawn x = Check.lawn("park wide 2 deep 4 errs 0 slips 0;row od;row dg;row gh;row uo");
        int[] due = {2, 3, 4, -2, 6, 7, -2, -2};
        for (int c = 0; c < 8; c++) {
            check.told("6 to the south of " + c, x, x.place(c, 3), due[c]);
        }
        x.hedge(7);
        check.told("6 onto a hedge NOW", x, x.place(5, 3), -2);
        x.undo();
        check.told("6 onto lawn again", x, x.place(5, 3), 7);
    }

    private void whatOfAWalker() {
        HahaLawn x = Check.lawn(open(2, 2) + ";walker a keeper at 1 0 to 0 1;walker b child at 0 0 to 1 1");
        int[][] due = {{3, 1, 2, 0, 0}, {1, 0, 3, 0, 0}};
        for (int w = 0; w < 2; w++) {
            for (int what = 0; what <= 4; what++) {
                check.told("7 walker " + w + " what " + what, x, x.walker(w, what), due[w][what]);
            }
            for (int what : new int[] {-1, 5, Integer.MIN_VALUE, Integer.MAX_VALUE}) {
                check.refused("7 what " + what, x, x.walker(w, what), 1);
            }
        }
        for (int w : new int[] {-1, 2, 3, 4, Integer.MIN_VALUE, Integer.MAX_VALUE}) {
            check.refused("7 walker " + w, x, x.walker(w, 0), 1);
        }
    }

    private void sortsOfAll() {
        HahaLawn x = Check.lawn("park wide 5 deep 4 errs 0 slips 0;row ooooo;row ddddd;row ggggg;row hhhhu");
        int[] due = {0b10000_00000_00000_11111, 0b11111_00000, 0b11111_00000_00000, 0b01111_00000_00000_00000};
        for (int sort = 0; sort <= 3; sort++) {
            check.told("10 sort " + sort, x, x.all(sort), due[sort]);
        }
        for (int sort : new int[] {-1, 4, Integer.MIN_VALUE, Integer.MAX_VALUE}) {
            check.refused("10 sort " + sort, x, x.all(sort), 2);
        }
        x = Check.lawn("park wide 5 deep 4 errs 0 slips 0;row hhhhh;row hhhhh;row hhhhh;row hhhhh");
        check.told("10 all of one sort", x, x.all(3), (1 << 20) - 1);
        check.told("10 none of a sort", x, x.all(0), 0);
        x = new HahaLawn();
        check.refused("10 no PARK", x, x.all(0), 1);
        check.refused("10 no PARK ahead of a number", x, x.all(4), 1);
    }
}
