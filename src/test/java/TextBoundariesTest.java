/** THE TAPE and THE TEXT (Terms I, promises 1 to 5): the last that is let in, the first that isn't, on both sides. */
public final class TextBoundariesTest {
    private static final int NONE = HahaLawn.NONE;
    private static final int BLANKS = 0x20202020;
    private static final String HEAD = "park wide 3 deep 2 errs 5 slips 5";

    /** 0 o, 1 d, 2 h; 3 o, 4 g, 5 o. */
    private static final String LAND = HEAD + ";row odh;row ogo";
    private static final int BEHIND = LAND.length();

    private final Check check = new Check();

    public static void main(String[] args) {
        TextBoundariesTest test = new TextBoundariesTest();
        test.tapeHas800Bytes();
        test.refusedFeedBringsNothing();
        test.textOfAllTheTape();
        test.highestByteFirst();
        test.parkTakesUpToAllThatTheTapeHas();
        test.tapeIsEmptyBehindPark();
        test.tapeStaysBy2();
        test.parkStaysBy4();
        test.parkAnewForgetsActsAndImages();
        test.nothingOfAFaultyTextStays();
        test.faultIsOfTheLatestNotRefusedBy2();
        test.whereIsOfTheLatestThatMayBeRefused();
        test.blanksPartTokens();
        test.bytesThatBeginNoToken();
        test.wordsOf1To8Letters();
        test.everyLetterOfAWord();
        test.wholesOf1To3Digits();
        test.marks();
        test.boundsOfPark();
        test.parkAheadOfAllOthers();
        test.lettersOfRows();
        test.lengthsOfRows();
        test.asManyRowsAsDeep();
        test.upTo5Unsure();
        test.namesToldOnce();
        test.namesThatAreNone();
        test.kinds();
        test.placesOfWalkers();
        test.walkersOnHedges();
        test.upTo4Walkers();
        test.placesOfWalks();
        test.stepsOfWalks();
        test.howOfWalks();
        test.upTo6Walks();
        test.walkersAndWalksBehindTheLastRow();
        test.everyTextCutShort();
        test.firstFaultFromTheLeft();
        test.leastNumberOfOnePlace();
        test.check.finish("TextBoundariesTest");
    }

    private void fault(String text, int fault, int where) {
        check.fault(text, fault, where);
    }

    private void fine(String text, int places) {
        check.fine(text, places);
    }

    private static int blanks(HahaLawn x) {
        return x.feed(BLANKS, BLANKS, BLANKS, BLANKS, BLANKS);
    }

    private static String rows(int deep, String letters) {
        return (";row " + letters).repeat(deep);
    }

    private static String open(int wide, int deep) {
        return "park wide " + wide + " deep " + deep + " errs 0 slips 0" + rows(deep, "o".repeat(wide));
    }

    // ---- THE TAPE

    private void tapeHas800Bytes() {
        HahaLawn x = new HahaLawn();
        for (int i = 1; i <= 40; i++) {
            check.due("2 feed " + i + " of 40", blanks(x), 20 * i);
            check.due("53 bytes behind " + i, x.size(9), 20 * i);
        }
        check.due("2 more than 800", blanks(x), NONE);
        check.due("2 again", blanks(x), NONE);
        check.due("53 still 800", x.size(9), 800);
    }

    private void refusedFeedBringsNothing() {
        HahaLawn x = new HahaLawn();
        Check.feed(x, LAND + " ".repeat(800 - BEHIND));
        check.due("2 full", x.feed(-1, -1, -1, -1, -1), NONE);
        check.due("2 full", x.feed(0x7a7a7a7a, 0x7a7a7a7a, 0, 0, 0), NONE);
        check.due("2 a refused feed tells no number", x.trouble(), 0);
        check.told("2 what was there is still there", x, x.park(800), 6);
    }

    private void textOfAllTheTape() {
        String text = " ".repeat(800 - BEHIND) + LAND;
        fine(text, 6);
        HahaLawn x = new HahaLawn();
        Check.feed(x, text);
        check.refused("3 a byte fewer: a letter fewer", x, x.park(799), 4);
        check.due("5 the letters' place", x.where(), 797);
        fault(LAND + " ".repeat(799 - BEHIND) + "A", 1, 799);
        fault(LAND + " ".repeat(799 - BEHIND) + ";", 1, 800);
        fault(HEAD + " ".repeat(800 - HEAD.length()), 6, 800);
        fault(";".repeat(800), 1, 0);
        fault("a".repeat(800), 1, 0);
        fault("0".repeat(800), 1, 0);
        String many = LAND + ";walk 0 0 steps 1 dry".repeat(6) + ";walker abcdefgh colonel at 0 0 to 1 1";
        fine(many + " ".repeat(800 - many.length()), 6);
    }

    private void highestByteFirst() {
        HahaLawn x = new HahaLawn();
        x.feed(0x7061726b, 0x20776964, 0x65203220, 0x64656570, 0x20322065);
        x.feed(0x72727320, 0x3020736c, 0x69707320, 0x303b726f, 0x77206f6f);
        x.feed(0x3b726f77, 0x206f6420, 0x20202020, 0x20202020, 0x20202020);
        check.told("2 the highest first", x, x.park(60), 4);
        check.due("2 a ditch at the last one", x.all(1), 8);
        x = new HahaLawn();
        x.feed(0x6b726170, 0x64697720, BLANKS, BLANKS, BLANKS);
        x.park(20);
        check.due("2 not the lowest first", x.where(), 0);
        x.feed(0x7061726b, 0x20800000, 0, 0, 0);
        x.park(20);
        check.due("2 bytes above 127", x.where(), 5);
        check.due("2 bytes above 127", x.fault(), 1);
    }

    private void parkTakesUpToAllThatTheTapeHas() {
        HahaLawn x = new HahaLawn();
        check.refused("3 -1 of none", x, x.park(-1), 2);
        check.refused("3 1 of none", x, x.park(1), 2);
        check.refused("3 0 of none: an empty text", x, x.park(0), 4);
        check.due("5 at its end", x.where(), 0);
        Check.feed(x, LAND);
        int bytes = x.size(9);
        for (int n : new int[] {-1, bytes + 1, 800, 801, Integer.MIN_VALUE, Integer.MAX_VALUE}) {
            check.refused("3 " + n + " of " + bytes, x, x.park(n), 2);
            check.due("3 the tape stays", x.size(9), bytes);
        }
        check.told("3 all of it", x, x.park(bytes), 6);
        Check.feed(x, LAND);
        check.refused("3 0 of some", x, x.park(0), 4);
        check.due("4 FORM", x.fault(), 1);
        Check.feed(x, LAND);
        check.told("3 not the last blanks", x, x.park(BEHIND), 6);
        Check.feed(x, LAND);
        check.refused("3 one of it", x, x.park(1), 4);
        check.due("5 p begins a WORD, but none of a PARK", x.where(), 0);
        for (int i = 0; i < 40; i++) {
            blanks(x);
        }
        check.refused("3 801 of 800", x, x.park(801), 2);
        check.refused("3 800 of 800", x, x.park(800), 4);
        check.due("5 the end", x.where(), 800);
    }

    private void tapeIsEmptyBehindPark() {
        HahaLawn x = new HahaLawn();
        Check.feed(x, LAND + " ".repeat(20) + "zzzz");
        x.park(BEHIND);
        check.due("3 empty behind a fine one, what lay behind n too", x.size(9), 0);
        Check.feed(x, "walk walk walk walk walk walk");
        x.park(3);
        check.due("3 empty behind a FAULT", x.size(9), 0);
        check.refused("3 nothing of the former one is left", x, x.park(1), 2);
        for (int i = 1; i <= 40; i++) {
            check.due("3 all its room again", blanks(x), 20 * i);
        }
        check.due("3 and no more", blanks(x), NONE);
        x.park(0);
        check.told("3 a short text over a long one", x, Check.tell(x, LAND), 6);
    }

    private void tapeStaysBy2() {
        HahaLawn x = new HahaLawn();
        Check.feed(x, LAND);
        int bytes = x.size(9);
        x.park(bytes + 1);
        x.park(-1);
        check.due("3 by 2 it stays", x.size(9), bytes);
        check.due("3 more comes behind it", blanks(x), bytes + 20);
        check.told("3 as it was", x, x.park(bytes + 20), 6);
    }

    private void parkStaysBy4() {
        HahaLawn x = Check.lawn(LAND + ";walker a guest at 0 0 to 1 1;walk 0 0 steps 1 dry");
        x.dig(3);
        x.image();
        x.step(0, 1);
        String before = states(x);
        String[] texts = {"", "park wide 5 deep 4 errs 9 slips 9", open(5, 4) + ";", open(2, 2) + ";walker b child at 2",
            "park wide 2 deep 2 errs 0 slips 0;row uu;row uh;walker z keeper at 0 0 to 1 1", open(5, 4) + ";walk 0 0 steps 4"};
        for (String text : texts) {
            check.refused("3 a FAULT in " + text, x, Check.tell(x, text), 4);
            check.due("3 the PARK stays by " + text, states(x), before);
        }
        check.due("3 what can be undone stays", x.undo() && x.undo(), true);
        check.due("3 IMAGES stay", x.back(0), true);
        check.due("3 as by the IMAGE", x.all(1), 0b001010);
    }

    private static String states(HahaLawn x) {
        StringBuilder text = new StringBuilder();
        for (int what = 0; what <= 9; what++) {
            text.append(x.size(what)).append(' ');
        }
        for (int what = 0; what <= 4; what++) {
            text.append(x.all(what)).append(' ').append(x.walker(0, what)).append(' ').append(x.place(2, what)).append(' ');
        }
        return text.append(x.fits()).append(' ').append(x.judge()).append(' ').append(x.walkOdds(0, 1, false)).toString();
    }

    private void parkAnewForgetsActsAndImages() {
        HahaLawn x = Check.lawn(LAND + ";walker a guest at 0 0 to 1 1;walker b child at 0 1 to 0 0;walk 0 0 steps 1 dry");
        x.step(0, 1);
        x.step(0, 3);
        x.image();
        check.told("3 anew, smaller", x, Check.tell(x, open(2, 2) + ";walker c keeper at 1 1 to 0 0"), 4);
        int[] sizes = {2, 2, 0, 0, 1, 0, 0, 0, 0, 0};
        for (int what = 0; what < sizes.length; what++) {
            check.due("3 anew, size " + what, x.size(what), sizes[what]);
        }
        check.refused("3 nothing to undo", x, x.undo(), 6);
        check.refused("3 no IMAGES", x, x.back(0), 1);
        check.due("3 all IMAGES can be made again", x.image() * 100 + x.image() * 10 + x.image(), 12);
        check.refused("3 a PLACE of the former PARK", x, x.place(4, 0), 1);
        check.refused("3 a walker of the former PARK", x, x.walker(1, 0), 1);
        check.due("3 minutes begin anew", x.walker(0, 4), 0);
        check.told("3 anew, larger", x, Check.tell(x, open(5, 4)), 20);
        check.due("3 no hedge of the former ones", x.all(0), (1 << 20) - 1);
    }

    private void nothingOfAFaultyTextStays() {
        String large = "park wide 5 deep 4 errs 1 slips 2;row uuuuu;row ddddd;row ggggg;row ooooo";
        String walkers = walker("aa") + walker("ab") + walker("ac") + walker("ad");
        String walks = ";walk 0 0 steps 1 dry".repeat(6);
        String small = open(2, 2) + ";walker aa child at 0 1 to 1 0;walker ab guest at 0 0 to 0 0;walk 0 0 steps 1 fell";
        HahaLawn x = new HahaLawn();
        for (String bad : new String[] {large + walkers + walks + ";", large + walkers + ";", large + ";", large + walks + " ?",
            small + walker("aa"), open(5, 4) + walkers + ";walker"}) {
            check.refused("3 a FAULT in " + bad, x, Check.tell(x, bad), 4);
            check.told("3 fine behind it", x, Check.tell(x, small), 4);
            int[] sizes = {2, 2, 0, 0, 2, 1, 0, 0, 0, 0};
            for (int what = 0; what < sizes.length; what++) {
                check.due("3 size " + what + " behind " + bad, x.size(what), sizes[what]);
            }
            check.due("3 lawn alone behind " + bad, x.all(0), 15);
            check.due("3 the first walker behind " + bad, x.walker(0, 1) * 10 + x.walker(0, 2), 21);
            check.due("3 no FITS behind " + bad, x.fits(), 0);
            check.told("3 another", x, Check.tell(x, large), 20);
            check.due("3 its walkers", x.size(4), 0);
            check.due("3 its walks", x.size(5), 0);
        }
        check.told("3 with a guest", x, Check.tell(x, "park wide 2 deep 2 errs 0 slips 0;row oo;row do" + walker("a")), 4);
        x.step(0, 2);
        check.due("7 he fell", x.walker(0, 3), 1);
        check.told("3 anew", x, Check.tell(x, "park wide 2 deep 2 errs 0 slips 0;row oo;row do" + walker("a")), 4);
        check.due("7 falls begin anew", x.walker(0, 3), 0);
        check.due("7 minutes begin anew", x.walker(0, 4), 0);
        check.due("7 where he is begins anew", x.walker(0, 1), 0);
    }

    private void faultIsOfTheLatestNotRefusedBy2() {
        HahaLawn x = new HahaLawn();
        check.due("4 without one", x.fault(), 0);
        x.park(9);
        check.due("4 refused by 2: still without", x.fault(), 0);
        Check.tell(x, "row");
        check.due("4 LACKS", x.fault(), 6);
        x.park(9);
        x.park(-9);
        check.due("4 refused by 2: still LACKS", x.fault(), 6);
        x.latest();
        check.due("4 other calls leave it", x.fault(), 6);
        Check.tell(x, "rows");
        check.due("4 FORM", x.fault(), 1);
        Check.tell(x, LAND);
        check.due("4 a fine one has none", x.fault(), 0);
    }

    private void whereIsOfTheLatestThatMayBeRefused() {
        HahaLawn x = new HahaLawn();
        check.due("5 nothing was called", x.where(), NONE);
        Check.tell(x, "   park wide 9");
        check.due("5 its place", x.where(), 13);
        check.due("5 asked again", x.where(), 13);
        x.trouble();
        x.fault();
        x.size(3);
        x.feed(1, 2, 3, 4, 5);
        Check.ledOr(x, 0, 0);
        check.due("5 calls that tell no number leave it", x.where(), 13);
        x.park(801);
        check.due("5 by 2", x.where(), NONE);
        check.due("5 but it was a FAULT", x.fault(), 4);
        Check.tell(x, "row");
        check.due("5 at the first byte", x.where(), 0);
        x.undo();
        check.due("5 by 6", x.where(), NONE);
        Check.tell(x, LAND);
        check.due("5 not refused", x.where(), NONE);
        Check.tell(x, "row");
        x.all(0);
        check.due("5 behind a call that wasn't refused", x.where(), NONE);
        check.due("4 still", x.fault(), 6);
    }

    // ---- TOKENS

    private void blanksPartTokens() {
        fine(LAND.replace(" ", "     "), 6);
        fine("  " + LAND.replace(";", "  ;  ") + "   ", 6);
        fine("park wide3deep2errs5slips5;row odh;row ogo;walker a guest at0 0to1 1;walk0 0steps1dry", 6);
        fault("pa rk wide 3", 1, 0);
        fault("parkwide 3", 1, 0);
        fault("park wi de 3", 1, 5);
        fault(LAND.replace("row odh", "rowodh"), 1, HEAD.length() + 1);
        fault(LAND.replace("row odh", "row od h"), 1, HEAD.length() + 5);
        fault(LAND + ";walker a guest at 0 1 1 to 0 0", 1, BEHIND + 23);
        fault(LAND + ";walker a guest at 01 to 0 0", 1, BEHIND + 22);
        fault(LAND.replace("errs 5", "errs 0 5"), 1, 26);
        fault(LAND + ";walker aguest at 0 0", 1, BEHIND + 15);
    }

    /** Each byte where a line could end, begin, where a WORD or a WHOLE is due. */
    private void bytesThatBeginNoToken() {
        for (int b = 0; b < 256; b++) {
            char sign = (char) b;
            boolean letter = b >= 'a' && b <= 'z';
            boolean digit = b >= '0' && b <= '9';
            if (b == ' ') {
                fine(LAND + " " + sign, 6);
                fine(sign + LAND, 6);
            } else {
                fault(LAND + " " + sign, 1, b == ';' ? BEHIND + 2 : BEHIND + 1);
                fault(sign + LAND, 1, 0);
            }
            if (letter) {
                fine(LAND + ";walker " + sign + " guest at 0 0 to 0 1", 6);
            } else {
                fault(LAND + ";walker " + sign + " guest at 0 0 to 0 1", 1, b == ' ' ? BEHIND + 16 : BEHIND + 8);
            }
            if (digit) {
                fine(LAND.replace("errs 5", "errs " + sign), 6);
            } else {
                fault(LAND.replace("errs 5", "errs " + sign), 1, b == ' ' ? 26 : 24);
            }
            if (b != ' ' && b != ';' && !letter && !digit) {
                fault(LAND + sign, 1, BEHIND);
            }
        }
        fine(LAND + ";walker az guest at 0 0 to 0 1;walker za guest at 0 0 to 0 1", 6);
    }

    private void wordsOf1To8Letters() {
        String tail = " guest at 0 0 to 0 1";
        for (int length = 1; length <= 12; length++) {
            String text = LAND + ";walker " + "n".repeat(length) + tail;
            if (length <= 8) {
                fine(text, 6);
            } else {
                fault(text, 1, BEHIND + 8);
            }
        }
        fault(LAND + ";walker  " + tail, 1, BEHIND + 16);
        fault("parkkkkkk", 1, 0);
        fault(LAND + ";rowrowrow", 1, BEHIND + 1);
        fault(LAND + "; walkwalkw", 1, BEHIND + 2);
        fault(LAND + "walkwalkw", 1, LAND.length() - 3);
    }

    /** Each WORD of a LINE with a letter changed, fewer, or more is another one: FORM at it. */
    private void everyLetterOfAWord() {
        String text = LAND + ";walker q guest at 0 0 to 0 1;walker r child at 0 0 to 0 1;walker s colonel at 0 0 to 0 1"
            + ";walker t keeper at 0 0 to 0 1;walk 0 0 steps 1 fell;walk 0 0 steps 1 dry";
        java.util.regex.Matcher words = java.util.regex.Pattern.compile("[a-z]{2,}").matcher(text);
        int seen = 0;
        while (words.find()) {
            String word = words.group();
            if (!word.equals("odh") && !word.equals("ogo")) {
                String before = text.substring(0, words.start());
                String behind = text.substring(words.end());
                for (int i = 0; i < word.length(); i++) {
                    fault(before + word.substring(0, i) + "x" + word.substring(i + 1) + behind, 1, words.start());
                }
                fault(before + word.substring(1) + behind, 1, words.start());
                fault(before + word.substring(0, word.length() - 1) + behind, 1, words.start());
                fault(before + word + "x" + behind, 1, words.start());
                seen++;
            }
        }
        check.due("WORDS seen", seen, 7 + 4 * 4 + 2 * 3);
    }

    private void wholesOf1To3Digits() {
        for (String five : new String[] {"5", "05", "005"}) {
            fine(LAND.replace("errs 5", "errs " + five), 6);
        }
        for (String five : new String[] {"0005", "00005", "1000", "0100", "0000000000000000000005"}) {
            fault(LAND.replace("errs 5", "errs " + five), 1, 24);
        }
        fine(LAND.replace("errs 5", "errs 000"), 6);
        fine(LAND.replace("errs 5", "errs 099"), 6);
        fault(LAND.replace("errs 5", "errs 999"), 4, 24);
        fine(LAND + ";walker a guest at 000 001 to 001 000", 6);
        fault(LAND + ";walker a guest at 0000 1", 1, BEHIND + 19);
        fine(LAND + ";walk 000 000 steps 001 fell", 6);
        fault(LAND + ";walk 0 0 steps 0001 fell", 1, BEHIND + 16);
        fault(LAND.replace("errs 5", "errs -5"), 1, 24);
        fault(LAND.replace("errs 5", "errs +5"), 1, 24);
    }

    private void marks() {
        fault(";" + LAND, 1, 0);
        fault(LAND + ";", 1, BEHIND + 1);
        fault(LAND + ";   ", 1, BEHIND + 4);
        fault(LAND + ";;walk 0 0 steps 1 dry", 1, BEHIND + 1);
        fault(LAND + " walk 0 0 steps 1 dry", 1, BEHIND + 1);
        fault(HEAD + " row odh", 1, HEAD.length() + 1);
        fault(LAND.replace("wide 3", "wide;3"), 1, 9);
    }

    // ---- LINES

    private void boundsOfPark() {
        for (int n = 0; n <= 999; n++) {
            String rest = " deep 2 errs 0 slips 0" + rows(2, "o".repeat(Math.min(n, 8)));
            if (n >= 2 && n <= 5) {
                fine("park wide " + n + rest, 2 * n);
                check.due("53 wide " + n, Check.lawn("park wide " + n + rest).size(0), n);
            } else {
                fault("park wide " + n + rest, 4, 10);
            }
            String head = "park wide 2 deep " + n;
            if (n >= 2 && n <= 4) {
                fine(head + " errs 0 slips 0" + rows(n, "oo"), 2 * n);
                check.due("53 deep " + n, Check.lawn(head + " errs 0 slips 0" + rows(n, "oo")).size(1), n);
            } else {
                fault(head + " errs 0 slips 0;row oo;row oo", 4, 17);
            }
            String errs = "park wide 2 deep 2 errs " + n + " slips 0;row oo;row oo";
            String slips = "park wide 2 deep 2 errs 0 slips " + n + ";row oo;row oo";
            if (n <= 100) {
                check.due("53 errs", Check.lawn(errs).size(2), n);
                check.due("53 slips", Check.lawn(slips).size(3), n);
            } else {
                fault(errs, 4, 24);
                fault(slips, 4, 32);
            }
        }
        for (int wide = 2; wide <= 5; wide++) {
            for (int deep = 2; deep <= 4; deep++) {
                fine(open(wide, deep), wide * deep);
            }
        }
    }

    private void parkAheadOfAllOthers() {
        String park = "park wide 2 deep 2 errs 0 slips 0";
        fault("row oo;" + park, 6, 0);
        fault("walker a guest at 0 0 to 0 0;" + park, 6, 0);
        fault("  walk 0 0 steps 1 dry;" + park, 6, 2);
        fault("row", 6, 0);
        fault(park + ";" + park, 3, 34);
        fault(park + ";row oo;  park", 3, 43);
        fault(park + ";row oo;row oo;park", 3, 48);
        fault(open(2, 2) + ";walker a guest at 0 0 to 0 0;park", 3, open(2, 2).length() + 30);
        fault(open(2, 2) + ";walk 0 0 steps 1 dry;park wide 9", 3, open(2, 2).length() + 22);
    }

    private void lettersOfRows() {
        for (char letter = 'a'; letter <= 'z'; letter++) {
            int sort = "odgh".indexOf(letter);
            for (int i = 0; i < 6; i++) {
                StringBuilder letters = new StringBuilder("oooooo");
                letters.setCharAt(i, letter);
                String text = HEAD + ";row " + letters.substring(0, 3) + ";row " + letters.substring(3);
                if ("odghu".indexOf(letter) < 0) {
                    fault(text, 1, HEAD.length() + (i < 3 ? 5 : 13));
                } else {
                    HahaLawn x = Check.lawn(text);
                    check.due("6 what is at " + i + " by " + letter, x.place(i, 0), Math.max(sort, 0));
                    check.due("6 unsure by " + letter, x.place(i, 1), letter == 'u' ? 1 : 0);
                    check.due("53 unsure ones by " + letter, x.size(6), letter == 'u' ? 1 : 0);
                }
            }
        }
        fault(HEAD + ";row oO" + "o", 1, HEAD.length() + 5);
        fault(HEAD + ";row 000", 1, HEAD.length() + 5);
        fault(HEAD + ";row ;row ooo", 1, HEAD.length() + 5);
    }

    private void lengthsOfRows() {
        for (int wide = 2; wide <= 5; wide++) {
            String head = "park wide " + wide + " deep 2 errs 5 slips 5;row ";
            for (int length = 1; length <= 10; length++) {
                String letters = "o".repeat(length);
                if (length == wide) {
                    fine(head + letters + ";row " + letters, 2 * wide);
                } else {
                    fault(head + letters + ";row " + letters, 1, head.length());
                    String first = head + "o".repeat(wide) + ";row ";
                    fault(first + letters, 1, first.length());
                }
            }
        }
    }

    private void asManyRowsAsDeep() {
        for (int deep = 2; deep <= 4; deep++) {
            String head = "park wide 2 deep " + deep + " errs 0 slips 0";
            for (int many = 0; many < deep; many++) {
                String text = head + rows(many, "oo");
                fault(text, 6, text.length());
                fault(text + "  ", 6, text.length() + 2);
                fault(text + ";", 1, text.length() + 1);
            }
            String text = head + rows(deep, "oo");
            fine(text, 2 * deep);
            fault(text + ";row oo", 5, text.length() + 1);
            fault(text + ";row", 5, text.length() + 1);
            fault(text + ";walk 0 0 steps 1 dry;row oo", 5, text.length() + 22);
        }
    }

    private void upTo5Unsure() {
        String head = "park wide 5 deep 4 errs 5 slips 5";
        String[] rows = {"ooooo", "uoooo", "uuooo", "uuuoo", "uuuuo", "uuuuu"};
        for (int first = 0; first <= 5; first++) {
            for (int last = 0; last <= 5; last++) {
                String text = head + ";row " + rows[first] + ";row ooooo;row ooooo;row " + rows[last];
                if (first + last <= 5) {
                    fine(text, 20);
                    check.due("53 unsure ones", Check.lawn(text).size(6), first + last);
                } else {
                    fault(text, 5, text.length() - 5);
                }
            }
        }
        fault(head + ";row uuuuu;row oooou;row uuuuu", 5, head.length() + 15);
        fault(head + ";row uuuuu;row uuuu", 1, head.length() + 15);
        fault(head + ";row uuuuu;row uuuux", 1, head.length() + 15);
        fault(head + ";row uuuuu;row uuuuuu", 1, head.length() + 15);
    }

    // ---- walkers

    private static String walker(String name) {
        return ";walker " + name + " guest at 0 0 to 0 1";
    }

    private void namesToldOnce() {
        String three = LAND + walker("ab") + walker("ba") + walker("abc");
        for (String name : new String[] {"ab", "ba", "abc"}) {
            fault(three + walker(name), 3, three.length() + 8);
        }
        for (String name : new String[] {"a", "b", "bc", "abcd", "aab", "bab"}) {
            fine(three + walker(name), 6);
        }
        fine(LAND + walker("aaaaaaaa") + walker("aaaaaaab") + walker("baaaaaaa") + walker("aaaaaaa"), 6);
        fault(LAND + walker("zzzzzzzz") + walker("zzzzzzzz"), 3, LAND.length() + walker("zzzzzzzz").length() + 8);
        fault(LAND + walker("a") + ";walk 0 0 steps 1 dry" + walker("a"), 3, BEHIND + 29 + 21 + 8);
    }

    private void namesThatAreNone() {
        for (String name : new String[] {"park", "row", "walker", "walk", "7", ";", "A"}) {
            fault(LAND + walker(name), 1, BEHIND + 8);
        }
        for (String name : new String[] {"wide", "deep", "errs", "slips", "guest", "child", "colonel", "keeper", "at", "to",
            "steps", "fell", "dry", "o", "ooo", "parks", "par", "rows", "walks", "walkers", "wal"}) {
            fine(LAND + walker(name), 6);
        }
        fault(LAND + ";walker", 1, BEHIND + 7);
    }

    private void kinds() {
        String[] kinds = {"guest", "child", "colonel", "keeper"};
        for (int kind = 0; kind < 4; kind++) {
            String text = LAND + ";walker a " + kinds[kind] + " at 0 0 to 0 1";
            fine(text, 6);
            check.due("7 KIND", Check.lawn(text).walker(0, 0), kind);
            fault(LAND + ";walker a " + kinds[kind] + "s at 0 0 to 0 1", 1, BEHIND + 10);
        }
        for (String word : new String[] {"king", "gues", "a", "at", "1", ";", "walk"}) {
            fault(LAND + ";walker a " + word + " at 0 0 to 0 1", 1, BEHIND + 10);
        }
    }

    private void placesOfWalkers() {
        for (int wide = 2; wide <= 5; wide++) {
            for (int deep = 2; deep <= 4; deep++) {
                String land = open(wide, deep);
                for (int column = 0; column <= wide + 1; column++) {
                    for (int row = 0; row <= deep + 1; row++) {
                        placeOfWalker(land, wide, deep, column, row);
                    }
                }
            }
        }
        fault(open(2, 2) + ";walker a guest at 999 0", 4, open(2, 2).length() + 19);
        fault(open(2, 2) + ";walker a guest at 0 999", 4, open(2, 2).length() + 21);
    }

    private void placeOfWalker(String land, int wide, int deep, int column, int row) {
        String at = land + ";walker a guest at " + column + " " + row + " to 0 0";
        String to = land + ";walker a guest at 0 0 to " + column + " " + row;
        if (column >= wide) {
            fault(at, 4, land.length() + 19);
            fault(to, 4, land.length() + 26);
        } else if (row >= deep) {
            fault(at, 4, land.length() + 21);
            fault(to, 4, land.length() + 28);
        } else {
            check.due("7 where he is by " + at, Check.lawn(at).walker(0, 1), row * wide + column);
            check.due("7 where he goes by " + to, Check.lawn(to).walker(0, 2), row * wide + column);
        }
    }

    private void walkersOnHedges() {
        for (int c = 0; c < 6; c++) {
            StringBuilder letters = new StringBuilder("oogduo");
            letters.setCharAt(c, 'h');
            String land = HEAD + ";row " + letters.substring(0, 3) + ";row " + letters.substring(3);
            int other = c == 0 ? 1 : 0;
            for (int d = 0; d < 6; d++) {
                String there = d % 3 + " " + d / 3;
                String at = land + ";walker a child at " + there + " to " + other + " 0";
                String to = land + ";walker a child at " + other + " 0 to " + there;
                if (d == c) {
                    fault(at, 7, land.length() + 21);
                    fault(to, 7, land.length() + 28);
                } else {
                    fine(at, 6);
                    fine(to, 6);
                }
            }
            fault(land + ";walker a child at " + c % 3 + "   " + c / 3 + " ; ;", 7, land.length() + 23);
        }
    }

    private void upTo4Walkers() {
        String text = LAND;
        for (int w = 0; w < 4; w++) {
            text += walker("a" + (char) ('a' + w));
            fine(text, 6);
            check.due("53 walkers", Check.lawn(text).size(4), w + 1);
        }
        fault(text + walker("b"), 5, text.length() + 1);
        fault(text + walker("aa"), 5, text.length() + 1);
        fault(text + ";  walker", 5, text.length() + 3);
        fine(text + ";walk 0 0 steps 1 dry", 6);
        fault(text + ";walk 0 0 steps 1 dry" + walker("b"), 5, text.length() + 22);
    }

    // ---- walks

    private void placesOfWalks() {
        for (int wide = 2; wide <= 5; wide++) {
            for (int deep = 2; deep <= 4; deep++) {
                String land = open(wide, deep);
                for (int n = 0; n <= 6; n++) {
                    String column = land + ";walk " + n + " 0 steps 1 dry";
                    if (n < wide) {
                        fine(column, wide * deep);
                    } else {
                        fault(column, 4, land.length() + 6);
                    }
                    String row = land + ";walk 0 " + n + " steps 1 dry";
                    if (n >= deep) {
                        fault(row, 4, land.length() + 8);
                    }
                }
            }
        }
        fine(HEAD + ";row hhh;row hhh;walk 0 0 steps 1 fell;walk 2 0 steps 1 dry", 6);
    }

    private void stepsOfWalks() {
        for (int deep = 2; deep <= 4; deep++) {
            for (int row = 0; row < deep; row++) {
                for (int k = 0; k < 18; k++) {
                    int steps = k / 3;
                    String land = open(3, deep);
                    String text = land + ";walk " + k % 3 + " " + row + " steps " + steps + " fell";
                    if (steps >= 1 && steps <= 3 && row + steps < deep) {
                        fine(text, 3 * deep);
                    } else {
                        fault(text, 4, land.length() + 16);
                    }
                }
            }
        }
        fault(open(3, 4) + ";walk 0 0 steps 999 dry", 4, open(3, 4).length() + 16);
    }

    private void howOfWalks() {
        String walk = LAND + ";walk 0 0 steps 1 ";
        fine(walk + "fell", 6);
        fine(walk + "dry", 6);
        for (String how : new String[] {"wet", "fel", "fells", "dr", "dryy", "1", ";", "walk"}) {
            fault(walk + how, 1, walk.length());
        }
        fault(walk, 1, walk.length());
    }

    private void upTo6Walks() {
        String text = LAND;
        for (int k = 0; k < 6; k++) {
            text += ";walk 0 0 steps 1 " + (k % 2 == 0 ? "dry" : "fell");
            fine(text, 6);
            check.due("53 walks", Check.lawn(text).size(5), k + 1);
        }
        fault(text + ";walk 0 0 steps 1 dry", 5, text.length() + 1);
        fault(text + ";walk", 5, text.length() + 1);
        fine(text + walker("a"), 6);
        fault(text + walker("a") + "; walk 9", 5, text.length() + walker("a").length() + 2);
    }

    private void walkersAndWalksBehindTheLastRow() {
        for (String line : new String[] {"walker a guest at 0 0 to 0 1", "walk 0 0 steps 1 dry", "walker", "walk"}) {
            fault(line, 6, 0);
            fault(HEAD + ";" + line, 6, HEAD.length() + 1);
            fault(HEAD + ";row ooo;" + line, 6, HEAD.length() + 9);
            fault(HEAD + ";row ooo;" + line + ";row ooo", 6, HEAD.length() + 9);
        }
        fine(HEAD + ";row ooo;row ooo;walk 0 0 steps 1 dry" + walker("a"), 6);
    }

    // ---- of several FAULTS

    /** A text that breaks off: in the midst of a LINE FORM at the end, behind one a row may lack. */
    private void everyTextCutShort() {
        String text = LAND + ";walker ab guest at 0 0 to 0 1;walk 2 0 steps 1 dry";
        String[] words = text.replace(";", " ; ").split(" ");
        int place = 0;
        for (int i = 0; i < words.length - 1; i++) {
            place = text.indexOf(words[i], place) + words[i].length();
            String part = text.substring(0, place);
            boolean lineEnds = words[i + 1].equals(";");
            if (!lineEnds) {
                fault(part, 1, part.length());
                fault(part + "   ", 1, part.length() + 3);
            } else if (part.length() >= BEHIND) {
                fine(part, 6);
            } else {
                fault(part, 6, part.length());
            }
        }
        fine(text, 6);
    }

    private void firstFaultFromTheLeft() {
        fault("park wide 6 deep 9", 4, 10);
        fault("park wide 6 Deep", 4, 10);
        fault("park Wide 6", 1, 5);
        fault(HEAD + ";row uuu;row uux;park", 1, HEAD.length() + 13);
        fault(HEAD + ";row uuu;row uuu;?", 5, HEAD.length() + 13);
        fault(LAND + ";walker a guest at 2 0 to 9 9", 7, BEHIND + 21);
        fault(LAND + ";walker a guest at 2 9 to 2 0", 4, BEHIND + 21);
        fault(LAND + ";walker a guest at 9 ?", 4, BEHIND + 19);
        fault(LAND + ";walker a guest at 0 0 to 2 0?", 7, BEHIND + 28);
        fault(LAND + walker("a") + ";walker a king at 9", 3, BEHIND + 37);
        fault(LAND + ";walk 9 9 steps 9 wet", 4, BEHIND + 6);
        fault(LAND + ";walk 0 0 steps 9 wet", 4, BEHIND + 16);
    }

    private void leastNumberOfOnePlace() {
        // the end: FORM ahead of LACKS
        fault(HEAD + ";", 1, HEAD.length() + 1);
        fault(HEAD + ";row", 1, HEAD.length() + 4);
        fault("park", 1, 4);
        // a row of more letters: FORM ahead of MANY
        fault("park wide 4 deep 2 errs 5 slips 5;row uuuu;row uuuuu", 1, 47);
        // a walker too many and ahead of nothing: MANY; a row too many behind walkers: MANY
        fault(LAND + walker("a") + ";row odh", 5, BEHIND + walker("a").length() + 1);
    }
}
