/** Each promise by answers worked out by hand: ordinary inputs, edges, wrong inputs. */
public final class PromisesTest {
    private static final int NONE = HahaLawn.NONE;

    /*
     *   0 o  1 o  2 h  3 o
     *   4 d  5 d  6 g  7 u
     *   8 o  9 o 10 o 11 o
     */
    private static final String PARK = "park wide 4 deep 3 errs 20 slips 50;row ooho;row ddgu;row oooo"
        + ";walker a guest at 0 0 to 0 2;walker b child at 1 0 to 1 2;walker c keeper at 2 2 to 0 0"
        + ";walk 3 0 steps 1 fell;walk 0 0 steps 2 dry";

    /*
     *   0 o  1 o
     *   2 d  3 h
     *   4 d  5 h
     *   6 o  7 o
     */
    private static final String SHAFT = "park wide 2 deep 4 errs 10 slips 25;row oo;row dh;row dh;row oo"
        + ";walker g guest at 0 0 to 0 2;walker k keeper at 0 3 to 0 0"
        + ";walker i child at 0 1 to 1 0;walker c colonel at 1 3 to 1 0";

    private static final String OPEN = "park wide 3 deep 3 errs 0 slips 100;row ooo;row ooo;row ooo";

    private final Check check = new Check();

    public static void main(String[] args) {
        PromisesTest test = new PromisesTest();
        test.park();
        test.faults();
        test.now();
        test.ways();
        test.hedgesAndGates();
        test.meeting();
        test.unsure();
        test.liars();
        test.slipsAndRambles();
        test.acts();
        test.refusals();
        test.check.finish("PromisesTest");
    }

    private void due(String what, long got, long want) {
        check.due(what, got, want);
    }

    private void due(String what, boolean got, boolean want) {
        check.due(what, got, want);
    }

    private void refused(String what, HahaLawn x, long got, int number) {
        check.refused(what, x, got, number);
    }

    private void refused(String what, HahaLawn x, boolean got, int number) {
        check.refused(what, x, got, number);
    }

    private static int ledOr(HahaLawn x, int i, int ifNone) {
        return Check.ledOr(x, i, ifNone);
    }

    // ---- promises 1 to 5

    private void park() {
        HahaLawn x = new HahaLawn();
        for (int what = 0; what <= 9; what++) {
            due("1 size " + what, x.size(what), 0);
        }
        due("1 trouble", x.trouble(), 0);
        due("1 fault", x.fault(), 0);
        due("1 where", x.where(), NONE);
        due("1 led", ledOr(x, 0, -7), -7);

        for (int i = 1; i <= 40; i++) {
            due("2 feed " + i, x.feed(0x20202020, 0x20202020, 0x20202020, 0x20202020, 0x20202020), 20 * i);
        }
        due("2 one too many", x.feed(1, 2, 3, 4, 5), NONE);
        due("2 none came", x.size(9), 800);
        due("2 tells no trouble", x.trouble(), 0);
        refused("3 too long", x, x.park(801), 2);
        refused("3 negative", x, x.park(-1), 2);
        due("3 the tape stays", x.size(9), 800);
        due("4 not of one refused by 2", x.fault(), 0);
        due("5 not by 2", x.where(), NONE);
        refused("3 blanks alone", x, x.park(800), 4);
        due("3 the end's place", x.where(), 800);
        due("3 the tape is empty", x.size(9), 0);

        // highest byte first: "park wide 2 deep 2 e", "rrs 0 slips 0;row oo", ";row oo"
        due("2", x.feed(0x7061726b, 0x20776964, 0x65203220, 0x64656570, 0x20322065), 20);
        due("2", x.feed(0x72727320, 0x3020736c, 0x69707320, 0x303b726f, 0x77206f6f), 40);
        due("2", x.feed(0x3b726f77, 0x206f6f80, -1, -1, -1), 60);
        due("3 what lies behind is gone", x.park(47), 4);
        due("3 empty", x.size(9), 0);
        due("3 not refused", x.trouble(), 0);
        due("4 without one", x.fault(), 0);

        due("3 a fault", Check.tell(x, "park wide 9"), NONE);
        due("4", x.fault(), 4);
        due("5", x.where(), 10);
        due("3 the park stays", x.size(0), 2);
        refused("3 again", x, x.park(1), 2);
        due("4 stays", x.fault(), 4);
        due("5 no longer", x.where(), NONE);
        Check.tell(x, "row");
        due("5", x.where(), 0);
        due("2 feed leaves it", x.feed(0, 0, 0, 0, 0), 20);
        due("5 led, size, feed may not be refused", x.where() + x.size(0) + ledOr(x, 0, 0), 2);
        x.place(0, 0);
        due("5 a call that may", x.where(), NONE);
        due("4 still", x.fault(), 6);

        x = Check.lawn(PARK);
        x.step(0, 1);
        x.image();
        Check.tell(x, "park;");
        due("3 what can be undone stays by 4", x.size(7), 1);
        due("3 images stay by 4", x.size(8), 1);
        due("3 where he is stays by 4", x.walker(0, 1), 1);
        due("3 anew", Check.tell(x, PARK), 12);
        due("3 nothing to undo", x.size(7), 0);
        due("3 no images", x.size(8), 0);
        due("3 as told", x.walker(0, 1), 0);
    }

    private void fault(String text, int fault, int where) {
        check.fault(text, fault, where);
    }

    private void fine(String text, int places) {
        check.fine(text, places);
    }

    private void faults() {
        String head = "park wide 3 deep 2 errs 5 slips 5;row odh;row ogo";
        int behind = head.length();
        fine("  park  wide3deep2errs005slips  5 ;row odh;  row ogo  ", 6);
        fine(head + ";walker guest guest at 0 0 to 1 1;walk 2 0 steps 1 dry;walker abcdefgh child at 1 0 to 0 1", 6);
        fine("park wide 5 deep 4 errs 100 slips 100;row uuuuu;row ooooo;row ooooo;row ooooo", 20);
        fine(head + ";walker ab guest at 0 0 to 1 1;walker ba child at 0 0 to 1 1;walker aa keeper at 0 0 to 1 1", 6);
        fault("", 1, 0);
        fault("   ", 1, 3);
        fault(";", 1, 0);
        fault("lawn", 1, 0);
        fault("Park", 1, 0);
        fault("parks wide 3", 1, 0);
        fault("3", 1, 0);
        fault("park", 1, 4);
        fault("park wide", 1, 9);
        fault("park wide ;", 1, 10);
        fault("park deep 3", 1, 5);
        fault("park wide 1", 4, 10);
        fault("park wide 6", 4, 10);
        fault("park wide 0003", 1, 10);
        fault("park wide 3 deep 1", 4, 17);
        fault("park wide 3 deep 5", 4, 17);
        fault("park wide 3 deep 2 errs 101", 4, 24);
        fault("park wide 3 deep 2 errs 5 slips 101", 4, 32);
        fault("park wide 3 deep 2 errs 5 slips 5", 6, 33);
        fault("park wide 3 deep 2 errs 5 slips 5  ", 6, 35);
        fault("park wide 3 deep 2 errs 5 slips 5;", 1, 34);
        fault("park wide 3 deep 2 errs 5 slips 5 row", 1, 34);
        fault("park wide 3 deep 2 errs 5 slips 5;;", 1, 34);
        fault("park wide 3 deep 2 errs 5 slips 5;park", 3, 34);
        fault("park wide 3 deep 2 errs 5 slips 5;row oo", 1, 38);
        fault("park wide 3 deep 2 errs 5 slips 5;row oooo", 1, 38);
        fault("park wide 3 deep 2 errs 5 slips 5;row oox", 1, 38);
        fault("park wide 3 deep 2 errs 5 slips 5;row 111", 1, 38);
        fault("park wide 3 deep 2 errs 5 slips 5;row ooo", 6, 41);
        fault("park wide 3 deep 2 errs 5 slips 5;row ooo;row", 1, 45);
        fault("park wide 3 deep 2 errs 5 slips 5;row ooo;walk", 6, 42);
        fault("park wide 3 deep 2 errs 5 slips 5;row ooo;walker", 6, 42);
        fault("row ooo", 6, 0);
        fault("walker a", 6, 0);
        fault("walk 0", 6, 0);
        fault("park wide 4 deep 2 errs 5 slips 5;row uuuu;row ouu", 1, 47);
        fault("park wide 4 deep 2 errs 5 slips 5;row uuuu;row ouuo", 5, 47);
        fault(head + ";row", 5, behind + 1);
        fault(head + ";park", 3, behind + 1);
        fault(head + ";walker row guest", 1, behind + 8);
        fault(head + ";walker 1 guest", 1, behind + 8);
        fault(head + ";walker abcdefghi guest", 1, behind + 8);
        fault(head + ";walker a guests", 1, behind + 10);
        fault(head + ";walker a guest to", 1, behind + 16);
        fault(head + ";walker a guest at 3 0", 4, behind + 19);
        fault(head + ";walker a guest at 0 2", 4, behind + 21);
        fault(head + ";walker a guest at 2 0", 7, behind + 21);
        fault(head + ";walker a guest at 2 0 A", 7, behind + 21);
        fault(head + ";walker a guest at 0 0 to 2 0", 7, behind + 28);
        fault(head + ";walker a guest at 0 0 at", 1, behind + 23);
        fault(head + ";walker a guest at 0 0 to 0 0;walker a child", 3, behind + 37);
        fault(head + ";walker a guest at 0 0 to 0 0 0", 1, behind + 30);
        fault(head + ";walk 3 0", 4, behind + 6);
        fault(head + ";walk 0 2", 4, behind + 8);
        fault(head + ";walk 0 0 step 1", 1, behind + 10);
        fault(head + ";walk 0 0 steps 0", 4, behind + 16);
        fault(head + ";walk 0 0 steps 2", 4, behind + 16);
        fault(head + ";walk 0 1 steps 1", 4, behind + 16);
        fault(head + ";walk 0 0 steps 1 wet", 1, behind + 18);
        fault(head + ";walk 0 0 steps 1", 1, behind + 17);
        fault(head + ";walk 0 0 steps 1 dry?", 1, behind + 21);
        fault("park wide 2 deep 4 errs 5 slips 5;row oo;row oo;row oo;row oo;walk 0 0 steps 4", 4, 77);
        String walkers = head;
        String walks = head;
        for (int i = 0; i < 4; i++) {
            walkers += ";walker " + (char) ('a' + i) + " child at 0 0 to 0 1";
        }
        for (int i = 0; i < 6; i++) {
            walks += ";walk 0 0 steps 1 dry";
        }
        fine(walkers, 6);
        fine(walks, 6);
        fault(walkers + ";walker", 5, walkers.length() + 1);
        fault(walks + ";walk", 5, walks.length() + 1);
    }

    // ---- promises 6 to 10

    private void now() {
        HahaLawn x = Check.lawn(PARK);
        int[] sorts = {0, 0, 3, 0, 1, 1, 2, 0, 0, 0, 0, 0};
        int[] souths = {4, 5, 6, 7, 8, 9, 10, 11, -2, -2, -2, -2};
        for (int c = 0; c < 12; c++) {
            due("6 what is at " + c, x.place(c, 0), sorts[c]);
            due("6 unsure " + c, x.place(c, 1), c == 7 ? 1 : 0);
            due("6 walkers at " + c, x.place(c, 2), c == 0 ? 1 : c == 1 ? 2 : c == 10 ? 4 : 0);
            due("6 to the south of " + c, x.place(c, 3), souths[c]);
        }
        x.hedge(11);
        due("6 no STEP goes onto a hedge", x.place(7, 3), -2);
        x.dig(7);
        due("6 now", x.place(7, 0), 1);
        due("6 was told to be unsure", x.place(7, 1), 1);

        x = Check.lawn(SHAFT);
        int[] goals = {4, 0, 1, 1};
        int[] starts = {0, 6, 2, 7};
        int[] kinds = {0, 3, 1, 2};
        for (int w = 0; w < 4; w++) {
            due("7 kind of " + w, x.walker(w, 0), kinds[w]);
            due("7 where " + w + " is", x.walker(w, 1), starts[w]);
            due("7 where " + w + " goes", x.walker(w, 2), goals[w]);
            due("7 falls of " + w, x.walker(w, 3), 0);
            due("7 minutes of " + w, x.walker(w, 4), 0);
        }
        // rows: from 0 south, 2 south, 4 south, 6 north, 4 north, 2 north; guest, keeper, child, colonel
        int[] froms = {0, 2, 4, 6, 4, 2};
        int[][] times = {{3, 3, -2, -2, -2, 1}, {2, 2, 4, 4, 4, 1}, {-2, -2, -2, -2, -2, 1}, {1, 1, 1, 1, 1, 1}};
        for (int w = 0; w < 4; w++) {
            for (int i = 0; i < 6; i++) {
                int step = i < 3 ? 2 : 0;
                due("8 " + w + " from " + froms[i], x.minutes(w, froms[i], step), times[w][i]);
                int falls = times[w][i] == -2 ? -2 : w == 0 && i < 2 ? 1 : 0;
                due("9 " + w + " from " + froms[i], x.falls(w, froms[i], step), falls);
            }
        }
        due("8 out of the park", x.minutes(3, 1, 1), -2);
        due("8 onto a hedge", x.minutes(3, 2, 1), -2);
        due("8 from a hedge", x.minutes(3, 3, 0), 1);

        x = Check.lawn("park wide 3 deep 2 errs 0 slips 0;row oog;row ddg;walker g guest at 0 0 to 0 0"
            + ";walker i child at 0 0 to 0 0;walker k keeper at 0 0 to 0 0;walker c colonel at 0 0 to 0 0");
        for (int w = 0; w < 4; w++) {
            due("8 west onto a ditch by " + w, x.minutes(w, 5, 3), w == 1 ? -2 : 1);
            due("9 west onto a ditch by " + w, x.falls(w, 5, 3), w == 1 ? -2 : 0);
            due("8 east onto a ditch by " + w, x.minutes(w, 3, 1), w == 1 ? -2 : 1);
            due("8 east out of a ditch by " + w, x.minutes(w, 4, 1), 1);
            due("8 onto a gate by " + w, x.minutes(w, 2, 2), 1);
            due("8 not round the edge by " + w, x.minutes(w, 2, 1), -2);
            due("8 nor back by " + w, x.minutes(w, 3, 3), -2);
        }
        due("10 lawn", x.all(0), 0b000011);
        due("10 ditches", x.all(1), 0b011000);
        due("10 gates", x.all(2), 0b100100);
        due("10 hedges", x.all(3), 0);
        x.hedge(1);
        due("10 hedges now", x.all(3), 0b000010);
    }

    // ---- promises 11 to 20, and 52

    private void steps(String what, HahaLawn x, boolean dry, int w, String steps) {
        for (int i = 0; i < steps.length(); i++) {
            due(what + " at " + i, dry ? x.dryAt(w, i) : x.quickAt(w, i), steps.charAt(i) - '0');
        }
        refused(what + " behind it", x, dry ? x.dryAt(w, steps.length()) : x.quickAt(w, steps.length()), 1);
        refused(what + " ahead of it", x, dry ? x.dryAt(w, -1) : x.quickAt(w, -1), 1);
    }

    private void ways() {
        HahaLawn x = Check.lawn(SHAFT);
        int[] quick = {6, 9, 2, 5};
        String[] steps = {"22", "000", "01", "30001"};
        for (int w = 0; w < 4; w++) {
            due("11 " + w, x.quick(w), quick[w]);
            due("12 " + w, x.quickFalls(w), w == 0 ? 2 : 0);
            due("14 " + w, x.dry(w), w == 0 ? 2 : 0);
            due("15 " + w, x.dryMinutes(w), quick[w]);
            steps("13 " + w, x, false, w, steps[w]);
            steps("16 " + w, x, true, w, steps[w]);
        }
        due("20 the keeper", x.latest(), 1);
        due("17 guest", x.reach(0), 0b00010111);
        due("17 child", x.reach(2), 0b00000111);
        due("17 colonel", x.reach(3), 0b11010111);
        due("18 at once", x.reachIn(0, 0), 0b00000001);
        due("18 in 2", x.reachIn(0, 2), 0b00000011);
        due("18 in 3", x.reachIn(0, 3), 0b00000111);
        due("18 in 99", x.reachIn(0, 99), 0b00010111);
        due("18 keeper in 4", x.reachIn(1, 4), 0b11010000);
        due("19", x.minutesTo(0, 4), 6);
        due("19 where he is", x.minutesTo(0, 0), 0);
        due("19 never", x.minutesTo(0, 6), -2);
        due("19 never onto a hedge", x.minutesTo(3, 3), -2);
        due("52 nobody", ledOr(x, 0, -7), -7);
        x.hedge(1);
        due("52 first", ledOr(x, 0, -7), 2);
        due("52 second", ledOr(x, 1, -7), 3);
        due("52 no third", ledOr(x, 2, -7), -7);
        due("52 none ahead", ledOr(x, -1, -7), -7);
        due("52 tells no trouble", x.trouble(), 0);

        // A fall of 3 minutes against a way round by the gate.
        String round = "park wide 3 deep 3 errs 0 slips 0;row ooo;row ddg;row ooo";
        x = Check.lawn(round + ";walker a guest at 0 0 to 1 1;walker b guest at 0 0 to 2 2;walker c child at 0 0 to 0 2"
            + ";walker d guest at 0 2 to 0 2");
        due("11 falls", x.quick(0), 4);
        due("12 round by the gate: as many minutes, fewer falls", x.quickFalls(0), 0);
        steps("13", x, false, 0, "1123");
        due("11 through the gate", x.quick(1), 4);
        steps("13", x, false, 1, "1122");
        due("11 child", x.quick(2), 6);
        steps("13", x, false, 2, "112233");
        due("11 he is there", x.quick(3), 0);
        due("14 he is there", x.dry(3), 0);
        steps("13", x, false, 3, "");
        due("20 the child", x.latest(), 2);
        x.step(2, 1);
        x.step(2, 1);
        due("20 the first of like ones", x.latest(), 0);

        // Into the ditch from the north 3 minutes and a fall; from the east 3 minutes without.
        x = Check.lawn("park wide 3 deep 2 errs 0 slips 0;row ooo;row dog;walker a guest at 0 0 to 0 1"
            + ";walker b guest at 1 0 to 2 1;walker c guest at 0 1 to 2 1");
        due("11 round it is as quick", x.quick(0), 3);
        due("12", x.quickFalls(0), 0);
        x.hedge(4);
        due("11", x.quick(0), 3);
        due("12 now he falls", x.quickFalls(0), 1);
        due("14 still", x.dry(0), 1);
        x = Check.lawn("park wide 3 deep 3 errs 0 slips 0;row oho;row doo;row oog;walker a guest at 0 0 to 0 1"
            + ";walker b guest at 1 2 to 0 1;walker c guest at 2 0 to 0 0");
        due("15 no other way", x.dryMinutes(0), 3);
        due("14", x.dry(1), 0);
        x = Check.lawn("park wide 3 deep 3 errs 0 slips 0;row ooo;row dho;row doo;walker a guest at 0 0 to 0 2");
        due("11 six minutes either way", x.quick(0), 6);
        due("12 the fewer falls", x.quickFalls(0), 0);
        steps("13", x, false, 0, "112233");
        x = Check.lawn("park wide 4 deep 3 errs 0 slips 0;row oooo;row dhho;row oooo;walker a guest at 0 0 to 0 2");
        due("11 the wall", x.quick(0), 8);
        x = Check.lawn("park wide 4 deep 2 errs 0 slips 0;row oooo;row dhoo;walker a guest at 0 0 to 0 1");
        due("14 he must", x.dry(0), 1);
        x = Check.lawn("park wide 4 deep 3 errs 0 slips 0;row oooo;row dhho;row gooo;walker a guest at 0 0 to 0 1");
        due("14 not over the wall", x.dry(0), 1);
        x = Check.lawn("park wide 5 deep 2 errs 0 slips 0;row ohooo;row ddooo;walker a guest at 2 0 to 0 0");
        due("14 along the ditch, out of it to the north", x.dry(0), 0);
        due("15", x.dryMinutes(0), 4);
        steps("16", x, true, 0, "2330");

        // Two falls are quicker (6 minutes) than none (8 minutes).
        x = Check.lawn("park wide 4 deep 3 errs 0 slips 0;row oooo;row dhho;row dooo;walker a guest at 0 0 to 0 2");
        due("11", x.quick(0), 6);
        due("12", x.quickFalls(0), 2);
        steps("13", x, false, 0, "22");
        due("14 dry", x.dry(0), 0);
        due("15 dry", x.dryMinutes(0), 8);
        steps("16", x, true, 0, "11122333");
    }

    // ---- promises 21 to 24

    private void hedgesAndGates() {
        HahaLawn x = Check.lawn(OPEN + ";walker a guest at 0 0 to 2 2;walker b child at 1 1 to 1 0"
            + ";walker c colonel at 0 0 to 0 0;walker d guest at 1 0 to 1 2");
        due("21 a corner, the least bits", x.cut(0), 0b000001010);
        due("21 side by side", x.cut(1), -2);
        due("21 he is there", x.cut(2), -2);
        due("21 straight across", x.cut(3), 0b000010101);
        x.hedge(3);
        due("21 one hedge stands", x.cut(0), 0b000000010);
        x.hedge(5);
        x.hedge(7);
        due("21 never as it is", x.cut(0), 0);
        x = Check.lawn("park wide 2 deep 3 errs 0 slips 0;row oo;row dd;row oo;walker g guest at 0 2 to 0 0"
            + ";walker k keeper at 0 2 to 0 0");
        due("21 the guest can't anyway", x.cut(0), 0);
        due("21 the keeper can", x.cut(1), 0b000110);

        due("22 one gate", x.gates(), 0b000100);
        x = Check.lawn("park wide 3 deep 4 errs 0 slips 0;row ooo;row ddd;row ddd;row ooo;walker i child at 0 0 to 2 3");
        due("22 two gates", x.gates(), 0b000_001_001_000);
        x.step(0, 1);
        due("22 the least bits still", x.gates(), 0b000_001_001_000);
        due("22 not changed by asking", x.all(2), 0);
        x = Check.lawn("park wide 2 deep 4 errs 0 slips 0;row od;row dd;row dd;row dd;walker i child at 0 0 to 0 3");
        due("22 three", x.gates(), 0b01_01_01_00);
        x.dig(0);
        due("22 not south out of a ditch", x.gates(), -2);
        x = Check.lawn("park wide 4 deep 4 errs 0 slips 0;row oddd;row dddd;row dddd;row dddd;walker i child at 0 0 to 3 3");
        due("22 three aren't enough", x.gates(), -2);
        x = Check.lawn("park wide 2 deep 2 errs 0 slips 0;row oh;row ho;walker k keeper at 0 0 to 1 1");
        due("22 no gate helps", x.gates(), -2);
        x = Check.lawn("park wide 2 deep 2 errs 0 slips 0;row od;row oo;walker k keeper at 0 0 to 1 1");
        due("22 none is needed", x.gates(), 0);

        x = Check.lawn("park wide 3 deep 2 errs 0 slips 0;row ooo;row dhd;walker g guest at 2 0 to 2 1"
            + ";walker h guest at 0 0 to 2 1");
        due("23 the one by which they gain", x.toFill(), 5);
        due("23 not changed by asking", x.all(1), 0b101000);
        x = Check.lawn("park wide 4 deep 3 errs 0 slips 0;row oodo;row dhho;row dooo;walker a guest at 0 0 to 0 2");
        due("23 by quick ways, of 6, 4 and 8 minutes, not by dry ones, of 8 each", x.toFill(), 4);
        x = Check.lawn("park wide 3 deep 2 errs 0 slips 0;row ooo;row dhd;walker i child at 0 0 to 0 1"
            + ";walker g guest at 2 0 to 2 1;walker h guest at 2 0 to 2 1");
        due("23 who has none needs 60", x.toFill(), 3);
        x = Check.lawn("park wide 3 deep 2 errs 0 slips 0;row ooo;row dhd");
        due("23 the first of like ones", x.toFill(), 3);
        x.fill(3);
        x.gate(5);
        due("23 there is none", x.toFill(), -2);

        x = Check.lawn("park wide 3 deep 2 errs 0 slips 0;row ooo;row oho;walker a guest at 0 0 to 0 1"
            + ";walker b child at 2 0 to 2 1;walker c guest at 1 0 to 2 1;walker d keeper at 1 0 to 2 1");
        due("24 the lawn of two, not of one", x.trap(), 5);
        due("24 not changed by asking", x.all(1), 0);
        x.step(3, 1);
        x.step(3, 2);
        due("24 not where somebody is", x.trap(), 3);
        x.dig(3);
        due("24 who has lost it can't lose it, a ditch can't be dug", x.trap(), -2);
        x = Check.lawn(OPEN + ";walker a colonel at 0 0 to 2 2;walker b keeper at 0 0 to 2 2");
        due("24 by none", x.trap(), -2);
    }

    // ---- promises 25 to 27

    private void meeting() {
        HahaLawn x = Check.lawn("park wide 5 deep 2 errs 0 slips 0;row ooooo;row ohhhd;walker a guest at 0 0 to 4 0"
            + ";walker b child at 4 0 to 0 0;walker c child at 3 0 to 0 0;walker d guest at 4 0 to 4 1");
        due("25 half way", x.meet(0, 1), 2);
        due("26 half way", x.meetAt(0, 1), 2);
        due("25 in passing nobody meets", x.meet(0, 2), -2);
        due("26 in passing nobody meets", x.meetAt(0, 2), -2);
        due("25 now", x.meet(1, 3), 0);
        due("26 now", x.meetAt(1, 3), 4);
        due("25 the other is gone by then", x.meet(0, 3), -2);
        due("25 one stays, the other comes", x.meet(2, 1), 4);
        due("26 one stays, the other comes", x.meetAt(2, 1), 0);
        due("27 all along", x.passers(2), 0b0111);
        due("27 at the start", x.passers(4), 0b1011);
        due("27 at the end", x.passers(9), 0b1000);
        due("27 a hedge", x.passers(6), 0);
        x.step(0, 1);
        due("25 he comes to 4 in minute 3, in which the other comes to be in the ditch", x.meet(0, 3), -2);
        x.step(0, 1);
        due("25 he comes to 4 in minute 2", x.meet(0, 3), 2);
        due("26 he comes to 4 in minute 2", x.meetAt(0, 3), 4);
        x.step(0, 3);
        x.hedge(2);
        due("25 one has no way", x.meet(0, 3), -2);
        due("26 one has no way", x.meetAt(3, 0), -2);
        due("27 without a way not even where he is", x.passers(1), 0);
    }

    // ---- promises 28 to 35

    private void unsure() {
        // unsure: 2 (the first, bit 1), 3 (bit 2), 7 (bit 4)
        String park = "park wide 2 deep 4 errs 25 slips 0;row oo;row uu;row od;row ou";
        HahaLawn x = Check.lawn(park + ";walk 0 0 steps 2 fell");
        due("28 all can be", x.fits(), 8);
        due("30 three quarters", x.odds(0, false), 3);
        due("30 three quarters", x.odds(0, true), 4);
        due("30 nothing known", x.odds(1, false), 1);
        due("30 nothing known", x.odds(1, true), 2);
        due("31 the first of like ones", x.likeliest(), 1);
        due("32 the first of like ones", x.tread(), 0);
        due("33", x.treadLeaves(), 4);
        due("34 it was told wrongly", x.judge(), 0);
        due("35 by the first alone", x.walkOdds(0, 3, false), 3);
        due("35 by the first alone", x.walkOdds(0, 3, true), 4);
        due("35 the start doesn't count", x.walkOdds(2, 2, false), 0);
        due("35 the start doesn't count", x.walkOdds(2, 2, true), 1);
        due("35 a sure ditch", x.walkOdds(3, 1, false), 1);
        due("35 a sure ditch", x.walkOdds(3, 1, true), 1);
        x.dig(4);
        x.fill(5);
        due("35 as told at first", x.walkOdds(2, 2, false), 0);
        due("35 as told at first", x.walkOdds(3, 1, false), 1);
        due("34 as told at first", x.judge(), 0);
        refused("29 no more", x, x.fitAt(8), 1);
        due("29", x.fitAt(7), 7);

        x = Check.lawn(park + ";walk 0 0 steps 1 fell;walk 0 0 steps 1 dry;walk 1 2 steps 1 dry;walk 1 0 steps 2 fell");
        due("30 told both ways", x.odds(0, false) * 10 + x.odds(0, true), 12);
        due("30 told dry", x.odds(2, false) * 10 + x.odds(2, true), 14);
        due("31", x.likeliest(), 0);
        due("34 the sure ditch is right, the first is not", x.judge(), 0);

        String sure = park.replace("errs 25", "errs 0");
        x = Check.lawn(sure + ";walk 0 0 steps 1 fell;walk 1 2 steps 1 dry");
        due("28 two", x.fits(), 2);
        due("29 first", x.fitAt(0), 1);
        due("29 second", x.fitAt(1), 3);
        refused("29 third", x, x.fitAt(2), 1);
        refused("29 none ahead", x, x.fitAt(-1), 1);
        due("30 sure", x.odds(0, false) * 10 + x.odds(0, true), 11);
        due("30 surely not", x.odds(2, false) * 10 + x.odds(2, true), 1);
        due("32 the one that parts them", x.tread(), 1);
        due("33 one is left", x.treadLeaves(), 1);
        due("31", x.likeliest(), 1);

        x = Check.lawn(sure + ";walk 0 0 steps 1 fell;walk 0 0 steps 1 dry");
        due("28 none", x.fits(), 0);
        refused("29", x, x.fitAt(0), 1);
        due("30 0 by 1", x.odds(1, false), 0);
        due("30 0 by 1", x.odds(1, true), 1);
        due("31", x.likeliest(), -2);
        due("32", x.tread(), -2);
        due("33", x.treadLeaves(), -2);
        due("35 0 by 1 even over a sure ditch", x.walkOdds(3, 1, false), 0);
        due("35 0 by 1", x.walkOdds(3, 1, true), 1);

        x = Check.lawn(park.replace("errs 25", "errs 100") + ";walk 0 0 steps 1 fell");
        due("28 always wrongly", x.fits(), 4);
        due("29 so it is none", x.fitAt(1), 2);
        due("30", x.odds(0, false), 0);

        x = Check.lawn("park wide 5 deep 2 errs 1 slips 0;row ooooo;row uuuuu;walk 0 0 steps 1 fell"
            + ";walk 0 0 steps 1 fell;walk 0 0 steps 1 fell;walk 0 0 steps 1 fell;walk 0 0 steps 1 fell"
            + ";walk 0 0 steps 1 fell");
        due("30 99 to the sixth", x.odds(0, false), 941480149401L);
        due("30 and 1", x.odds(0, true), 941480149402L);
        due("28 all", x.fits(), 32);

        x = Check.lawn(OPEN + ";walk 0 0 steps 1 dry");
        due("28 without unsure ones", x.fits(), 1);
        due("32 no unsure one", x.tread(), -2);
        due("33 no unsure one", x.treadLeaves(), -2);
        due("34 none", x.judge(), -2);
        x = Check.lawn(OPEN + ";walk 0 0 steps 1 dry;walk 0 0 steps 2 fell");
        due("34 the second", x.judge(), 1);
    }

    // ---- promises 36 to 38

    private void liars() {
        HahaLawn x = Check.lawn(OPEN);
        for (int shame = 0; shame <= 9; shame++) {
            for (int k = 0; k < 2; k++) {
                due("36 both hear", x.lies(shame, true, true, k == 1), 2 - shame);
                due("36 both sleep", x.lies(shame, false, false, k == 1), 1);
                due("36 the one hears", x.lies(shame, true, false, k == 1), k == 0 ? 4 : 0);
                due("36 the other one hears", x.lies(shame, false, true, k == 1), k == 1 ? 4 : 0);
            }
            due("37", x.rests(shame), shame < 2 ? 1 : shame == 2 ? 3 : 2);
            due("38", x.rest(shame), shame < 2 ? 11 : 1);
        }
    }

    // ---- promises 39 to 43

    private void slipsAndRambles() {
        HahaLawn x = Check.lawn(SHAFT);
        long[][] odds = {{9, 16}, {3, 8}, {1, 16}, {0, 1}};
        for (int often = 0; often < 4; often++) {
            due("39 upper", x.fallOdds(0, often, false), odds[often][0]);
            due("39 lower", x.fallOdds(0, often, true), odds[often][1]);
        }
        due("39 nine times", x.fallOdds(0, 9, false) * 10 + x.fallOdds(0, 9, true), 1);
        due("39 no fall", x.fallOdds(1, 0, false) * 10 + x.fallOdds(1, 0, true), 11);
        due("40", x.mean(0, false) * 10 + x.mean(0, true), 12);
        due("40 no fall", x.mean(1, false) * 10 + x.mean(1, true), 1);
        x.hedge(1);
        refused("39 no way", x, x.fallOdds(3, 0, false), 6);
        refused("39 2 ahead of 6", x, x.fallOdds(3, 10, false), 2);
        refused("40 no way", x, x.mean(3, false), 6);
        x = Check.lawn(SHAFT.replace("slips 25", "slips 100"));
        due("39 always", x.fallOdds(0, 2, false) * 10 + x.fallOdds(0, 2, true), 11);
        due("39 never fewer", x.fallOdds(0, 1, false) * 10 + x.fallOdds(0, 1, true), 1);
        due("40 two", x.mean(0, false) * 10 + x.mean(0, true), 21);
        x = Check.lawn(SHAFT.replace("slips 25", "slips 0"));
        due("39 never", x.fallOdds(0, 0, false) * 10 + x.fallOdds(0, 0, true), 11);

        // Draws of seed 0: 74, 5624, 28652, 51790: south, north, north, south.
        x = Check.lawn(PARK);
        int[] places = {0, 4, 0, 0, 4};
        int[] falls = {0, 1, 1, 1, 2};
        for (int n = 0; n <= 4; n++) {
            due("41 behind " + n, x.ramble(0, 0, n), places[n]);
            due("42 behind " + n, x.rambleFalls(0, 0, n), falls[n]);
            due("43 behind " + n, x.strayed(0, 0, n), -2);
        }
        due("41 he is where he was", x.walker(0, 1), 0);
        due("42 he didn't fall by acts", x.walker(0, 3), 0);
        x.step(0, 2);
        due("42 falls of before aren't counted", x.rambleFalls(0, 0, 4), 1);
        x = Check.lawn("park wide 2 deep 2 errs 0 slips 0;row oo;row do;walker a guest at 0 0 to 0 1"
            + ";walker b guest at 0 1 to 0 1");
        due("43 behind the first", x.strayed(0, 0, 4), 1);
        due("43 not if there is none", x.strayed(0, 0, 0), -2);
        due("43 now", x.strayed(1, 5, 90), 0);
    }

    // ---- promises 44 to 51, and 53

    private void acts() {
        HahaLawn x = Check.lawn(SHAFT);
        refused("49 nothing yet", x, x.undo(), 6);
        due("44 falls", x.step(0, 2), 2);
        due("44 falls again", x.step(0, 2), 4);
        refused("44 not over the wall", x, x.step(0, 2), 6);
        refused("44 2 ahead of 6", x, x.step(0, 4), 2);
        due("7 falls", x.walker(0, 3), 2);
        due("7 minutes", x.walker(0, 4), 6);
        due("44 the keeper comes", x.step(1, 0), 4);
        due("7 his minutes", x.walker(1, 4), 4);
        due("6 both", x.place(4, 2), 3);
        due("53 acts", x.size(7), 3);
        due("49", x.undo(), true);
        due("49", x.undo(), true);
        due("49 where he was", x.walker(0, 1), 2);
        due("49 falls before", x.walker(0, 3), 1);
        due("49 minutes before", x.walker(0, 4), 3);
        due("49 the keeper, too", x.walker(1, 4), 0);
        due("53", x.size(7), 1);

        x = Check.lawn(PARK);
        due("45 lawn, though somebody is there", x.dig(0), true);
        due("6", x.place(0, 0), 1);
        due("45 unsure is lawn", x.dig(7), true);
        for (int c = 2; c <= 7; c++) {
            if (c != 3) {
                refused("45 no lawn " + c, x, x.dig(c), 5);
            }
        }
        due("46 ditch", x.fill(4), true);
        due("6", x.place(4, 0), 0);
        refused("46 lawn", x, x.fill(4), 5);
        refused("46 gate", x, x.fill(6), 5);
        refused("46 hedge", x, x.fill(2), 5);
        due("47 ditch", x.gate(5), true);
        due("6", x.place(5, 0), 2);
        refused("47 gate", x, x.gate(5), 5);
        refused("47 lawn", x, x.gate(8), 5);
        refused("47 hedge", x, x.gate(2), 5);
        due("48 lawn", x.hedge(8), true);
        due("6", x.place(8, 0), 3);
        refused("48 hedge", x, x.hedge(8), 5);
        refused("48 somebody is there", x, x.hedge(1), 5);
        refused("48 ditch", x, x.hedge(7), 5);
        refused("48 gate", x, x.hedge(5), 5);
        due("48 somebody goes there", x.hedge(9), true);
        due("11 no more", x.quick(1), -2);
        due("53", x.size(7), 6);
        for (int i = 0; i < 6; i++) {
            due("49", x.undo(), true);
        }
        due("49 all ditches as before", x.all(1), 48);
        due("49 all hedges as before", x.all(3), 4);
        due("49 all gates as before", x.all(2), 64);
        refused("49 no more", x, x.undo(), 6);

        for (int i = 0; i < 20; i++) {
            due("44", x.step(2, i % 2 == 0 ? 1 : 3), i % 2 == 0 ? 11 : 10);
            due("53 at most 16", x.size(7), Math.min(16, i + 1));
        }
        for (int i = 0; i < 16; i++) {
            due("49", x.undo(), true);
        }
        refused("49 16 are kept", x, x.undo(), 6);
        due("7 four stay", x.walker(2, 4), 4);
        images();
    }

    private void images() {
        HahaLawn x = Check.lawn(PARK);
        refused("51 none yet", x, x.back(0), 1);
        due("50 the first", x.image(), 0);
        x.dig(8);
        x.step(0, 2);
        due("50 the second", x.image(), 1);
        due("50 leaves what can be undone", x.size(7), 2);
        x.undo();
        x.undo();
        x.hedge(9);
        due("50 the third", x.image(), 2);
        refused("50 no room", x, x.image(), 3);
        due("53 images", x.size(8), 3);
        due("51", x.back(1), true);
        due("51 where he was", x.walker(0, 1), 4);
        due("51 how often he fell", x.walker(0, 3), 1);
        due("51 minutes", x.walker(0, 4), 3);
        due("51 ditches", x.all(1), 48 | 256);
        due("51 hedges", x.all(3), 4);
        due("51 nothing can be undone", x.size(7), 0);
        refused("49 so", x, x.undo(), 6);
        due("51 all images stay", x.size(8), 3);
        x.step(2, 1);
        due("51 again", x.back(1), true);
        due("51 an image isn't changed by acts", x.walker(2, 1), 10);
        due("51 the first", x.back(0), true);
        due("51 as it was", x.all(1), 48);
        due("51 the third", x.back(2), true);
        due("51 as it was", x.all(3), 4 | 512);
        refused("51 none such", x, x.back(3), 1);
        refused("51 none such", x, x.back(-1), 1);
        due("51 a refused one changes nothing", x.all(3), 4 | 512);
        int[] sizes = {4, 3, 20, 50, 3, 2, 1, 0, 3, 0};
        for (int what = 0; what < 10; what++) {
            due("53 size " + what, x.size(what), sizes[what]);
        }
        due("53 others", x.size(10), NONE);
        due("53 others", x.size(-1), NONE);
        due("53 tells no trouble", x.trouble(), 0);
    }

    // ---- what is refused, by which number, and promise 54

    private void refusals() {
        HahaLawn bare = new HahaLawn();
        refuseAll("no park", bare, 0, 0, 1);
        refused("all, no park", bare, bare.all(0), 1);
        refused("all, no park, ahead of 2", bare, bare.all(9), 1);
        refused("latest, no park", bare, bare.latest(), 1);
        refused("gates, no park", bare, bare.gates(), 1);
        refused("toFill, no park", bare, bare.toFill(), 1);
        refused("trap, no park", bare, bare.trap(), 1);
        refused("fits, no park", bare, bare.fits(), 1);
        refused("fitAt, no park", bare, bare.fitAt(0), 1);
        refused("odds, no park", bare, bare.odds(0, true), 1);
        refused("likeliest, no park", bare, bare.likeliest(), 1);
        refused("tread, no park", bare, bare.tread(), 1);
        refused("treadLeaves, no park", bare, bare.treadLeaves(), 1);
        refused("judge, no park", bare, bare.judge(), 1);
        refused("rests, no park", bare, bare.rests(10), 1);
        refused("rest, no park", bare, bare.rest(10), 1);
        due("lies, no park", bare.lies(10, true, true, true), -100);
        due("lies, no park, trouble", bare.trouble(), 1);
        refused("undo, no park", bare, bare.undo(), 6);
        refused("image, no park", bare, bare.image(), 1);
        refused("back, no park", bare, bare.back(0), 1);

        HahaLawn x = Check.lawn(PARK);
        for (int bad : new int[] {-1, Integer.MIN_VALUE, Integer.MAX_VALUE, 12}) {
            refuseAll("bad " + bad, x, bad, bad, 1);
            refused("place what " + bad, x, x.place(0, bad), 1);
            refused("walker what " + bad, x, x.walker(0, bad), 1);
            refused("minutes step " + bad, x, x.minutes(0, 0, bad), 2);
            refused("falls step " + bad, x, x.falls(0, 0, bad), 2);
            refused("step step " + bad, x, x.step(0, bad), 2);
            refused("all " + bad, x, x.all(bad), 2);
            refused("meet " + bad, x, x.meet(0, bad), 1);
            refused("meetAt " + bad, x, x.meetAt(0, bad), 1);
            refused("odds " + bad, x, x.odds(bad, true), 1);
            refused("fitAt " + bad, x, x.fitAt(bad), 1);
            refused("walkOdds steps " + bad, x, x.walkOdds(0, bad, true), 2);
            refused("rests " + bad, x, x.rests(bad), 2);
            refused("rest " + bad, x, x.rest(bad), 2);
            due("lies " + bad, x.lies(bad, false, false, false), -100);
            due("lies " + bad + " trouble", x.trouble(), 2);
            refused("fallOdds often " + bad, x, x.fallOdds(0, bad, true), 2);
            refused("back " + bad, x, x.back(bad), 1);
        }
        refused("place what 4", x, x.place(0, 4), 1);
        refused("walker what 5", x, x.walker(0, 5), 1);
        refused("walker 3", x, x.walker(3, 0), 1);
        refused("all 4", x, x.all(4), 2);
        refused("step 4", x, x.step(0, 4), 2);
        refused("odds 1", x, x.odds(1, false), 1);
        refused("reachIn -1", x, x.reachIn(0, -1), 2);
        refused("reachIn 100", x, x.reachIn(0, 100), 2);
        refused("rests 10", x, x.rests(10), 2);
        refused("fallOdds 10", x, x.fallOdds(0, 10, true), 2);
        refused("walkOdds 0", x, x.walkOdds(0, 0, true), 2);
        refused("walkOdds 3 out of the park", x, x.walkOdds(0, 3, true), 2);
        refused("walkOdds 2 out of the park", x, x.walkOdds(4, 2, true), 2);
        HahaLawn deep = Check.lawn(SHAFT);
        due("walkOdds 3", deep.walkOdds(1, 3, true), 1);
        refused("walkOdds 4", deep, deep.walkOdds(1, 4, true), 2);
        refused("meet himself", x, x.meet(1, 1), 1);
        refused("meetAt himself", x, x.meetAt(1, 1), 1);
        for (int n : new int[] {-1, 91}) {
            refused("ramble " + n, x, x.ramble(0, 0, n), 2);
            refused("rambleFalls " + n, x, x.rambleFalls(0, 0, n), 2);
            refused("strayed " + n, x, x.strayed(0, 0, n), 2);
        }
        for (int seed : new int[] {-1, 65537}) {
            refused("ramble by " + seed, x, x.ramble(0, seed, 1), 2);
            refused("rambleFalls by " + seed, x, x.rambleFalls(0, seed, 1), 2);
            refused("strayed by " + seed, x, x.strayed(0, seed, 1), 2);
        }
        due("a last seed", x.ramble(0, 65536, 90) >= 0, true);
        due("54 not refused", x.trouble(), 0);
        refused("54", x, x.place(99, 0), 1);
        due("54 -2 isn't refused", x.quick(1), -2);
        due("54", x.trouble(), 0);
        x.place(99, 0);
        x.size(0);
        x.fault();
        x.where();
        x.feed(0, 0, 0, 0, 0);
        ledOr(x, 99, 0);
        due("54 of the latest that may be refused", x.trouble(), 1);
        due("54 asking leaves it", x.trouble(), 1);
        due("acts refused leave nothing to undo", x.size(7), 0);
        due("acts refused change nothing", x.all(1) * 100 + x.all(3), 4804);
    }

    /** All calls that a walker or a PLACE is told to, with one that there isn't. */
    private void refuseAll(String why, HahaLawn x, int w, int c, int number) {
        refused("place, " + why, x, x.place(c, 0), number);
        refused("walker, " + why, x, x.walker(w, 0), number);
        refused("minutes, " + why, x, x.minutes(w, 0, 9), number);
        refused("minutes from, " + why, x, x.minutes(0, c, 9), number);
        refused("falls, " + why, x, x.falls(w, 0, 9), number);
        refused("falls from, " + why, x, x.falls(0, c, 9), number);
        refused("quick, " + why, x, x.quick(w), number);
        refused("quickFalls, " + why, x, x.quickFalls(w), number);
        refused("quickAt, " + why, x, x.quickAt(w, 0), number);
        refused("dry, " + why, x, x.dry(w), number);
        refused("dryMinutes, " + why, x, x.dryMinutes(w), number);
        refused("dryAt, " + why, x, x.dryAt(w, 0), number);
        refused("reach, " + why, x, x.reach(w), number);
        refused("reachIn, " + why, x, x.reachIn(w, 100), number);
        refused("minutesTo, " + why, x, x.minutesTo(w, 0), number);
        refused("minutesTo place, " + why, x, x.minutesTo(0, c), number);
        refused("cut, " + why, x, x.cut(w), number);
        refused("meet, " + why, x, x.meet(w, 1), number);
        refused("meetAt, " + why, x, x.meetAt(w, 1), number);
        refused("passers, " + why, x, x.passers(c), number);
        refused("walkOdds, " + why, x, x.walkOdds(c, 9, true), number);
        refused("fallOdds, " + why, x, x.fallOdds(w, 10, true), number);
        refused("mean, " + why, x, x.mean(w, true), number);
        refused("ramble, " + why, x, x.ramble(w, -1, 0), number);
        refused("rambleFalls, " + why, x, x.rambleFalls(w, -1, 0), number);
        refused("strayed, " + why, x, x.strayed(w, -1, 0), number);
        refused("step, " + why, x, x.step(w, 4), number);
        refused("dig, " + why, x, x.dig(c), number);
        refused("fill, " + why, x, x.fill(c), number);
        refused("gate, " + why, x, x.gate(c), number);
        refused("hedge, " + why, x, x.hedge(c), number);
    }
}
