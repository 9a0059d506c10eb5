/** ACTS, UNDO, IMAGES, sizes, 512 calls (promises 44 to 51 and 53): what is so, what isn't, what is full. */
public final class ActBoundariesTest {
    private static final int NONE = HahaLawn.NONE;
    private static final int LAWN = 0;
    private static final int DITCH = 1;
    private static final int GATE = 2;
    private static final int HEDGE = 3;

    private final Check check = new Check();

    public static void main(String[] args) {
        ActBoundariesTest test = new ActBoundariesTest();
        test.actsOnEachSort();
        test.actsWhereSomebodyIs();
        test.hedgeWhereSomebodyGoes();
        test.sixteenAreKept();
        test.fewerThanSixteen();
        test.keptAgainBehindUndo();
        test.undoOfEachAct();
        test.refusedActsAreNotKept();
        test.undoWithoutAPark();
        test.upTo3Images();
        test.imagesStay();
        test.backForgetsWhatCanBeUndone();
        test.imageKeepsWhatCanBeUndone();
        test.backToAll();
        test.imagesWithoutAPark();
        test.sizesOfWhatThereIsnt();
        test.sizesOfTheLargest();
        test.otherSizes();
        test.used512Times();
        test.manyObjects();
        test.check.finish("ActBoundariesTest");
    }

    private static String park(String... rows) {
        StringBuilder text = new StringBuilder("park wide " + rows[0].length() + " deep " + rows.length + " errs 0 slips 0");
        for (String row : rows) {
            text.append(";row ").append(row);
        }
        return text.toString();
    }

    private static boolean act(HahaLawn x, int act, int c) {
        return act == 0 ? x.dig(c) : act == 1 ? x.fill(c) : act == 2 ? x.gate(c) : x.hedge(c);
    }

    /** DIG, FILL, GATE, HEDGE at lawn, ditch, gate, hedge, an unsure one: what it is then, NONE if that isn't so. */
    private void actsOnEachSort() {
        int[][] due = {{DITCH, NONE, NONE, NONE, DITCH}, {NONE, LAWN, NONE, NONE, NONE}, {NONE, GATE, NONE, NONE, NONE},
            {HEDGE, NONE, NONE, NONE, HEDGE}};
        int[] sorts = {LAWN, DITCH, GATE, HEDGE, LAWN};
        for (int act = 0; act < 4; act++) {
            for (int c = 0; c < 5; c++) {
                HahaLawn x = Check.lawn(park("odghu", "ooooo"));
                String what = 45 + act + " at " + c;
                if (due[act][c] == NONE) {
                    check.refused(what, x, act(x, act, c), 5);
                    check.due(what + " stays", x.place(c, 0), sorts[c]);
                    check.due(what + " nothing to undo", x.size(7), 0);
                } else {
                    check.told(what, x, act(x, act, c) ? 1 : 0, 1);
                    check.due(what + " becomes", x.place(c, 0), due[act][c]);
                    check.due(what + " can be undone", x.size(7), 1);
                }
                check.due(what + " unsure as told", x.place(c, 1), c == 4 ? 1 : 0);
                for (int other = 0; other < 5; other++) {
                    if (other != c) {
                        check.due(what + " alone", x.place(other, 0), sorts[other]);
                    }
                }
            }
        }
    }

    private void actsWhereSomebodyIs() {
        HahaLawn x = Check.lawn(park("oo", "oo") + ";walker a child at 0 0 to 1 1;walker b child at 1 0 to 1 1");
        check.refused("48 the first is there", x, x.hedge(0), 5);
        check.refused("48 the last is there", x, x.hedge(1), 5);
        check.due("45 he may be there", x.dig(0), true);
        check.refused("48 no lawn, and somebody is there", x, x.hedge(0), 5);
        check.due("46 he may be there", x.fill(0), true);
        x.dig(0);
        check.due("47 he may be there", x.gate(0), true);
        x.undo();
        x.undo();
        x.step(0, 2);
        check.due("48 he is gone", x.hedge(0), true);
        check.refused("48 he has come here", x, x.hedge(2), 5);
    }

    private void hedgeWhereSomebodyGoes() {
        HahaLawn x = Check.lawn(park("oo", "oo") + ";walker a child at 0 0 to 1 1");
        check.told("48 where he goes", x, x.hedge(3) ? 1 : 0, 1);
        check.told("11 there is no way", x, x.quick(0), -2);
        check.told("7 he still goes there", x, x.walker(0, 2), 3);
        check.told("21 never as it is", x, x.cut(0), 0);
        check.told("43 never", x, x.strayed(0, 0, 90), -2);
    }

    private static HahaLawn pacing(int acts) {
        HahaLawn x = Check.lawn(park("oo", "oo") + ";walker a guest at 0 0 to 1 1");
        for (int i = 0; i < acts; i++) {
            x.step(0, i % 2 == 0 ? 1 : 3);
        }
        return x;
    }

    private void sixteenAreKept() {
        for (int acts : new int[] {15, 16, 17, 18, 32, 33, 50}) {
            HahaLawn x = pacing(acts);
            int kept = Math.min(16, acts);
            check.due("53 kept of " + acts, x.size(7), kept);
            for (int i = 1; i <= kept; i++) {
                check.told("49 " + i + " of " + acts, x, x.undo() ? 1 : 0, 1);
                check.due("53 left", x.size(7), kept - i);
                check.due("49 minutes", x.walker(0, 4), acts - i);
                check.due("49 where he was", x.walker(0, 1), (acts - i) % 2);
            }
            check.refused("49 no more of " + acts, x, x.undo(), 6);
            check.due("49 a refused one changes nothing", x.walker(0, 4), acts - kept);
        }
    }

    private void fewerThanSixteen() {
        HahaLawn x = pacing(0);
        check.refused("49 nothing yet", x, x.undo(), 6);
        x = pacing(1);
        check.due("49 one", x.undo(), true);
        check.refused("49 no second", x, x.undo(), 6);
        check.due("49 where he was", x.walker(0, 1), 0);
    }

    private void keptAgainBehindUndo() {
        HahaLawn x = pacing(20);
        for (int i = 0; i < 16; i++) {
            x.undo();
        }
        for (int i = 1; i <= 17; i++) {
            x.step(0, i % 2 == 1 ? 1 : 3);
            check.due("53 kept again", x.size(7), Math.min(16, i));
        }
        check.due("7 four and seventeen", x.walker(0, 4), 21);
        for (int i = 0; i < 16; i++) {
            check.due("49 again", x.undo(), true);
        }
        check.due("7 five", x.walker(0, 4), 5);
        check.refused("49 no more", x, x.undo(), 6);
    }

    private void undoOfEachAct() {
        HahaLawn x = Check.lawn(park("oo", "do", "oo") + ";walker a guest at 0 0 to 1 1");
        x.step(0, 2);
        x.dig(0);
        x.gate(0);
        x.fill(2);
        x.hedge(5);
        int[][] sorts = {{2, 0, 0, 0, 0, 0}, {2, 0, 1, 0, 0, 0}, {1, 0, 1, 0, 0, 0}, {0, 0, 1, 0, 0, 0}, {0, 0, 1, 0, 0, 0}};
        for (int i = 0; i < 5; i++) {
            check.due("49 the latest", x.undo(), true);
            for (int c = 0; c < 6; c++) {
                check.due("49 " + i + " at " + c, x.place(c, 0), sorts[i][c]);
            }
            check.due("49 he has fallen, but for the last", x.walker(0, 3), i < 4 ? 1 : 0);
            check.due("49 he has gone, but for the last", x.walker(0, 4), i < 4 ? 3 : 0);
            check.due("49 he is there, but for the last", x.walker(0, 1), i < 4 ? 2 : 0);
            check.due("49 he goes there all the same", x.walker(0, 2), 3);
        }
    }

    private void refusedActsAreNotKept() {
        HahaLawn x = Check.lawn(park("oh", "do") + ";walker a guest at 0 0 to 1 1");
        x.step(0, 0);
        x.step(0, 9);
        x.step(9, 0);
        x.dig(1);
        x.dig(9);
        x.fill(0);
        x.gate(3);
        x.hedge(0);
        x.undo();
        x.back(0);
        check.due("53 nothing", x.size(7), 0);
        x.image();
        x.ramble(0, 0, 90);
        x.toFill();
        x.trap();
        x.gates();
        x.cut(0);
        check.due("53 what isn't an ACT isn't kept", x.size(7), 0);
    }

    private void undoWithoutAPark() {
        HahaLawn x = new HahaLawn();
        check.refused("49 no PARK", x, x.undo(), 6);
        check.refused("44 no PARK", x, x.step(0, 0), 1);
        check.refused("44 no PARK ahead of a number", x, x.step(0, 4), 1);
        for (int act = 0; act < 4; act++) {
            check.refused(45 + act + " no PARK", x, act(x, act, 0), 1);
        }
        check.due("53 nothing", x.size(7), 0);
    }

    // ---- IMAGES

    private void upTo3Images() {
        HahaLawn x = pacing(0);
        for (int i = 0; i < 3; i++) {
            check.refused("51 not yet " + i, x, x.back(i), 1);
            check.due("53 so many", x.size(8), i);
            check.told("50 its number", x, x.image(), i);
            check.told("51 the latest", x, x.back(i) ? 1 : 0, 1);
        }
        for (int i = 0; i < 2; i++) {
            check.refused("50 no room", x, x.image(), 3);
            check.due("53 three", x.size(8), 3);
        }
        for (int image : new int[] {-1, 3, 4, Integer.MIN_VALUE, Integer.MAX_VALUE}) {
            check.refused("51 " + image, x, x.back(image), 1);
        }
    }

    private void imagesStay() {
        HahaLawn x = pacing(0);
        for (int i = 0; i < 3; i++) {
            x.image();
            x.step(0, i % 2 == 0 ? 1 : 3);
        }
        check.refused("50 no room", x, x.image(), 3);
        for (int image : new int[] {2, 0, 1, 1, 2, 0}) {
            check.told("51 back to " + image, x, x.back(image) ? 1 : 0, 1);
            check.due("51 minutes", x.walker(0, 4), image);
            check.due("51 all stay", x.size(8), 3);
            x.step(0, 2);
            x.dig(0);
            check.due("51 ditches", x.all(1), 1);
        }
        check.refused("50 still no room", x, x.image(), 3);
        x.back(1);
        check.due("51 an IMAGE isn't changed by ACTS", x.all(1), 0);
    }

    private void backForgetsWhatCanBeUndone() {
        HahaLawn x = pacing(5);
        x.image();
        x.step(0, 3);
        check.due("53 six", x.size(7), 6);
        check.due("51", x.back(0), true);
        check.due("53 nothing can be undone", x.size(7), 0);
        check.refused("49 so", x, x.undo(), 6);
        x.step(0, 3);
        check.due("49 what was done since", x.undo(), true);
        check.due("49 as by the IMAGE", x.walker(0, 4), 5);
        check.refused("49 no further", x, x.undo(), 6);
        x.step(0, 3);
        check.refused("51 a refused one", x, x.back(1), 1);
        check.due("51 leaves what can be undone", x.size(7), 1);
    }

    private void imageKeepsWhatCanBeUndone() {
        HahaLawn x = pacing(3);
        x.image();
        check.due("50 it stays", x.size(7), 3);
        x.undo();
        check.due("49 behind an IMAGE", x.walker(0, 4), 2);
        check.due("53 IMAGES stay behind UNDO", x.size(8), 1);
        x.back(0);
        check.due("51 as it was", x.walker(0, 4), 3);
    }

    private void backToAll() {
        HahaLawn x = Check.lawn(park("oo", "do", "oo") + ";walker a guest at 0 0 to 1 1;walker b keeper at 0 0 to 1 1");
        x.image();
        x.step(0, 2);
        x.step(1, 1);
        x.dig(0);
        x.gate(0);
        x.fill(2);
        x.hedge(5);
        x.image();
        int[][] all = {{0b111011, 0b000100, 0, 0}, {0b011110, 0, 0b000001, 0b100000}};
        int[][] first = {{0, 0, 3, 0, 0}, {0, 2, 3, 1, 3}};
        int[][] second = {{3, 0, 3, 0, 0}, {3, 1, 3, 0, 1}};
        for (int image : new int[] {0, 1, 0}) {
            check.due("51 back to " + image, x.back(image), true);
            for (int sort = 0; sort < 4; sort++) {
                check.due("51 by " + image + " sort " + sort, x.all(sort), all[image][sort]);
            }
            for (int what = 0; what <= 4; what++) {
                check.due("51 by " + image + " the first, " + what, x.walker(0, what), first[image][what]);
                check.due("51 by " + image + " the second, " + what, x.walker(1, what), second[image][what]);
            }
        }
    }

    private void imagesWithoutAPark() {
        HahaLawn x = new HahaLawn();
        check.refused("50 no PARK", x, x.image(), 1);
        check.refused("51 no PARK", x, x.back(0), 1);
        check.due("53 none", x.size(8), 0);
    }

    // ---- sizes, calls

    private void sizesOfWhatThereIsnt() {
        HahaLawn x = new HahaLawn();
        for (int what = 0; what <= 9; what++) {
            check.due("53 no PARK, " + what, x.size(what), 0);
        }
        x.feed(0, 0, 0, 0, 0);
        check.due("53 bytes without a PARK", x.size(9), 20);
        x = Check.lawn(park("oo", "oo"));
        int[] due = {2, 2, 0, 0, 0, 0, 0, 0, 0, 0};
        for (int what = 0; what <= 9; what++) {
            check.due("53 a bare PARK, " + what, x.size(what), due[what]);
        }
    }

    private void sizesOfTheLargest() {
        String text = "park wide 5 deep 4 errs 100 slips 100;row uuuuu;row ooooo;row ooooo;row ooooo";
        for (int i = 0; i < 4; i++) {
            text += ";walker " + (char) ('a' + i) + " child at 0 0 to 1 1";
        }
        text += ";walk 0 0 steps 3 dry".repeat(6);
        HahaLawn x = Check.lawn(text);
        for (int i = 0; i < 17; i++) {
            x.step(3, i % 2 == 0 ? 1 : 3);
        }
        while (x.image() != NONE) {
            check.due("50 while there is room", x.trouble(), 0);
        }
        Check.feed(x, " ".repeat(800));
        int[] due = {5, 4, 100, 100, 4, 6, 5, 16, 3, 800};
        for (int what = 0; what <= 9; what++) {
            check.due("53 the largest, " + what, x.size(what), due[what]);
        }
    }

    private void otherSizes() {
        HahaLawn[] both = {new HahaLawn(), pacing(2)};
        for (HahaLawn x : both) {
            x.place(-1, 0);
            for (int what : new int[] {-1, 10, 11, Integer.MIN_VALUE, Integer.MAX_VALUE}) {
                check.due("53 " + what, x.size(what), NONE);
                check.due("53 tells no number", x.trouble(), 1);
            }
        }
    }

    /** The last of 512 calls is answered as the first: behind feeds and the park, STEPS up and down a wall, and two more. */
    private void used512Times() {
        HahaLawn x = new HahaLawn();
        String text = park("od", "oo") + ";walker a keeper at 1 1 to 0 0";
        Check.feed(x, text);
        int calls = (text.length() + 19) / 20 + 1;
        check.due("3", x.park(text.length()), 4);
        int minutes = 0;
        for (int i = 0; calls < 510; i++) {
            int due = i % 2 == 0 ? 1 : 3;
            int got = x.step(0, i % 2 == 0 ? 0 : 2);
            calls++;
            minutes += 4;
            if (got != due) {
                check.due("44 call " + calls, got, due);
            }
        }
        check.due("7 call 511", x.walker(0, 4), minutes);
        check.due("53 call 512", x.size(7), 16);
        x = pacing(0);
        for (int i = 0; i < 10000; i++) {
            x.step(0, i % 2 == 0 ? 1 : 3);
            x.undo();
            x.image();
            x.feed(i, i, i, i, i);
        }
        check.due("7 nothing is thrown behind it either", x.walker(0, 4), 0);
    }

    /** What one object is told isn't told to another. */
    private void manyObjects() {
        HahaLawn x = pacing(3);
        HahaLawn y = new HahaLawn();
        check.due("1 no PARK", y.size(0), 0);
        check.refused("1 no PARK", y, y.all(0), 1);
        check.due("54 of the other one", x.trouble(), 0);
        Check.tell(y, park("ooo", "ddd"));
        check.due("10 of the one", x.all(0), 15);
        check.due("10 of the other one", y.all(1), 56);
        check.due("53 of the one", x.size(7), 3);
    }
}
