/** What the tests share: feeding a text, and counting what is not as due. */
final class Check {
    private int asked;
    private int wrong;

    void due(String what, long got, long want) {
        asked++;
        if (got != want) {
            wrong++;
            System.out.println(what + " answered " + got + ", due is " + want);
        }
    }

    void due(String what, boolean got, boolean want) {
        due(what, got ? 1 : 0, want ? 1 : 0);
    }

    void finish(String name) {
        System.out.println(name + ": " + asked + " answers, " + wrong + " of them not as due");
        if (wrong > 0 || asked == 0) {
            System.exit(1);
        }
    }

    /** Five numbers a time, blanks behind the text. */
    static int[] numbersOf(String text) {
        int feeds = (text.length() + 19) / 20;
        int[] numbers = new int[feeds * 5];
        for (int i = 0; i < feeds * 20; i++) {
            int b = i < text.length() ? text.charAt(i) & 255 : ' ';
            numbers[i / 4] = numbers[i / 4] << 8 | b;
        }
        return numbers;
    }

    static void feed(HahaLawn x, String text) {
        int[] n = numbersOf(text);
        for (int i = 0; i < n.length; i += 5) {
            x.feed(n[i], n[i + 1], n[i + 2], n[i + 3], n[i + 4]);
        }
    }

    static int tell(HahaLawn x, String text) {
        feed(x, text);
        return x.park(text.length());
    }

    static HahaLawn lawn(String text) {
        HahaLawn x = new HahaLawn();
        if (tell(x, text) == HahaLawn.NONE) {
            throw new IllegalArgumentException("fault " + x.fault() + " at " + x.where() + ": " + text);
        }
        return x;
    }
}
