import java.util.NoSuchElementException;

/** What the tests share: feeding a text, and counting what is not as due. */
final class Check {
    private int asked;
    private int wrong;

    /** A call of the face; a boolean counts 1 or 0. */
    interface Call {
        long on(HahaLawn x);
    }

    void due(String what, long got, long want) {
        asked++;
        if (got != want) {
            wrong++;
            System.out.println(what + " answered " + got + ", due is " + want);
        }
    }

    void due(String what, boolean got, boolean want) {
        due(what, got ? 1 : 0, want ? 1 : 0);
    }

    void due(String what, String got, String want) {
        asked++;
        if (!got.equals(want)) {
            wrong++;
            System.out.println(what + " answered " + got + ", due is " + want);
        }
    }

    void finish(String name) {
        System.out.println(name + ": " + asked + " answers, " + wrong + " of them not as due");
        if (wrong > 0 || asked == 0) {
            System.exit(1);
        }
    }

    /** A refused call that answers NONE. */
    void refused(String what, HahaLawn x, long got, int number) {
        due(what, got, HahaLawn.NONE);
        due(what + " trouble", x.trouble(), number);
    }

    /** A refused call that answers false. */
    void refused(String what, HahaLawn x, boolean got, int number) {
        due(what, got, false);
        due(what + " trouble", x.trouble(), number);
    }

    /** A call that isn't refused. */
    void told(String what, HahaLawn x, long got, long want) {
        due(what, got, want);
        due(what + " trouble", x.trouble(), 0);
    }

    /** A text with a FAULT, on a new object. */
    void fault(String text, int fault, int where) {
        HahaLawn x = new HahaLawn();
        refused("park of " + text, x, tell(x, text), 4);
        due("fault of " + text, x.fault(), fault);
        due("where of " + text, x.where(), where);
        due("no park by " + text, x.size(0), 0);
    }

    /** A text without a FAULT, on a new object. */
    void fine(String text, int places) {
        HahaLawn x = new HahaLawn();
        told("park of " + text, x, tell(x, text), places);
        due("fault of " + text, x.fault(), 0);
        due("where of " + text, x.where(), HahaLawn.NONE);
    }

    static int ledOr(HahaLawn x, int i, int ifNone) {
        try {
            return x.led(i);
        } catch (NoSuchElementException e) {
            return ifNone;
        }
    }

    /** Five numbers a time, blanks behind the text. */
    static int[] numbersOf(String text) {
        int feeds = (text.length() + 19) / 20;
        int[] numbers = new int[feeds * 5];
        for (int i = 0; i < feeds * 20; i++) {
            int b = i < text.length() ? text.charAt(i) & 255 : ' ';
            numbers[i / 4] = numbers[i / 4] << 8 | b;
        }
        return numbers;
    }

    static void feed(HahaLawn x, String text) {
        int[] n = numbersOf(text);
        for (int i = 0; i < n.length; i += 5) {
            x.feed(n[i], n[i + 1], n[i + 2], n[i + 3], n[i + 4]);
        }
    }

    static int tell(HahaLawn x, String text) {
        feed(x, text);
        return x.park(text.length());
    }

    static HahaLawn lawn(String text) {
        HahaLawn x = new HahaLawn();
        if (tell(x, text) == HahaLawn.NONE) {
            throw new IllegalArgumentException("fault " + x.fault() + " at " + x.where() + ": " + text);
        }
        return x;
    }
}
