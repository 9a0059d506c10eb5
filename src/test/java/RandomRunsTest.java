import java.lang.reflect.InvocationTargetException;
import java.lang.reflect.Method;
import java.util.ArrayList;
import java.util.Arrays;
import java.util.Comparator;
import java.util.List;
import java.util.Random;

/** Runs of calls by a fixed seed, on HahaLawn and on Naive: every answer must be alike. */
public final class RandomRunsTest {
    private static final int RUNS = 400;
    private static final int TEXTS = 4000;
    private static final int CALLS = 500;
    private static final String[] KINDS = {"guest", "guest", "child", "colonel", "keeper"};
    private static final String[] WORDS = {"park", "row", "walker", "walk", "wide", "deep", "errs", "slips", "at", "to",
        "steps", "fell", "dry", "guest", "child", "colonel", "keeper", ";", "0", "1", "2", "3", "4", "5", "100", "101",
        "1000", "oo", "ooo", "oud", "ddddd", "uuuuu", "abcdefgh", "abcdefghi", "A", "\t", "-", "a", "\u00e9", "\0", ""};
    private static final List<Method> METHODS = methods();

    private final Random random = new Random(20261118);
    private final Check check = new Check();

    public static void main(String[] args) throws Exception {
        RandomRunsTest test = new RandomRunsTest();
        for (int run = 0; run < TEXTS; run++) {
            test.text(run);
        }
        for (int run = 0; run < RUNS; run++) {
            test.run(run);
        }
        test.check.finish("RandomRunsTest");
    }

    private static List<Method> methods() {
        List<Method> list = new ArrayList<>();
        for (Method m : HahaLawn.class.getDeclaredMethods()) {
            if (java.lang.reflect.Modifier.isPublic(m.getModifiers())) {
                list.add(m);
            }
        }
        list.sort(Comparator.comparing(Method::getName));
        return list;
    }

    private int upTo(int n) {
        return random.nextInt(n + 1);
    }

    private String someText() {
        int wide = 2 + upTo(3);
        int deep = 2 + upTo(2);
        StringBuilder t = new StringBuilder();
        int[] chances = {0, 100, 20, 50, 33, upTo(100)};
        t.append("park wide ").append(wide).append(" deep ").append(deep).append(" errs ").append(chances[upTo(5)])
            .append(" slips ").append(chances[upTo(5)]);
        String letters = new String[] {"oooddghu", "ooodd", "oooooh", "ddddo", "oodug", "odddh"}[upTo(5)];
        int unsure = 0;
        StringBuilder all = new StringBuilder();
        for (int y = 0; y < deep; y++) {
            t.append(random.nextBoolean() ? " ; row " : ";row ");
            for (int x = 0; x < wide; x++) {
                char letter = letters.charAt(upTo(letters.length() - 1));
                if (letter == 'u' && ++unsure > 5) {
                    letter = 'o';
                }
                t.append(letter);
                all.append(letter);
            }
        }
        for (int w = upTo(4); w > 0; w--) {
            int at = openPlace(all);
            int to = openPlace(all);
            if (at >= 0) {
                t.append(";walker ").append((char) ('a' + w)).append(' ').append(KINDS[upTo(4)]).append(" at ")
                    .append(at % wide).append(' ').append(at / wide).append(" to ").append(to % wide).append(' ')
                    .append(to / wide);
            }
        }
        for (int k = upTo(6); k > 0; k--) {
            int row = upTo(deep - 2);
            t.append(";walk ").append(upTo(wide - 1)).append(' ').append(row).append(" steps ")
                .append(1 + upTo(Math.min(3, deep - 1 - row) - 1)).append(random.nextBoolean() ? " fell" : " dry");
        }
        return t.toString();
    }

    private int openPlace(CharSequence letters) {
        for (int tries = 0; tries < 100; tries++) {
            int c = upTo(letters.length() - 1);
            if (letters.charAt(c) != 'h') {
                return c;
            }
        }
        return -1;
    }

    /** A text that may have FAULTS. */
    private String spoilt(String text) {
        List<String> parts = new ArrayList<>(Arrays.asList(text.replace(";", " ; ").split(" +")));
        for (int times = upTo(2); times >= 0; times--) {
            if (parts.isEmpty()) {
                break;
            }
            int i = upTo(parts.size() - 1);
            switch (upTo(5)) {
                case 0:
                    parts.remove(i);
                    break;
                case 1:
                    parts.add(i, WORDS[upTo(WORDS.length - 1)]);
                    break;
                case 2:
                    parts.set(i, WORDS[upTo(WORDS.length - 1)]);
                    break;
                case 3:
                    parts.set(i, parts.get(upTo(parts.size() - 1)));
                    break;
                case 4:
                    parts.addAll(parts.subList(i, Math.min(parts.size(), i + 8)).stream().toList());
                    break;
                default:
                    while (parts.size() > i + 1) {
                        parts.remove(parts.size() - 1);
                    }
            }
        }
        String joined = String.join(random.nextInt(4) == 0 ? "  " : " ", parts);
        return joined.length() > 800 ? joined.substring(0, 800) : joined;
    }

    private void tell(String text, HahaLawn x, Naive y, String name) {
        int[] n = Check.numbersOf(text);
        for (int i = 0; i < n.length; i += 5) {
            check.due(name + " feed", x.feed(n[i], n[i + 1], n[i + 2], n[i + 3], n[i + 4]),
                y.feed(n[i], n[i + 1], n[i + 2], n[i + 3], n[i + 4]));
        }
        check.due(name + " park of " + text, x.park(text.length()), y.park(text.length()));
        compareTold(x, y, name + " behind park of " + text);
    }

    private void compareTold(HahaLawn x, Naive y, String name) {
        check.due(name + " trouble", x.trouble(), y.trouble());
        check.due(name + " fault", x.fault(), y.fault());
        check.due(name + " where", x.where(), y.where());
        for (int what = 0; what < 10; what++) {
            check.due(name + " size " + what, x.size(what), y.size(what));
        }
    }

    private void text(int run) {
        HahaLawn x = new HahaLawn();
        Naive y = new Naive();
        tell(spoilt(someText()), x, y, "text " + run);
        tell(spoilt(someText()), x, y, "text " + run);
    }

    private void run(int run) throws Exception {
        HahaLawn x = new HahaLawn();
        Naive y = new Naive();
        if (run % 10 != 0) {
            tell(someText(), x, y, "run " + run);
        }
        List<Method> acts = METHODS.stream()
            .filter(m -> List.of("step", "dig", "fill", "gate", "hedge", "undo", "image", "back").contains(m.getName()))
            .toList();
        for (int call = 0; call < CALLS; call++) {
            List<Method> among = random.nextInt(4) == 0 ? acts : METHODS;
            Method m = among.get(upTo(among.size() - 1));
            // All ways of a large open park are too many to be walked at each call.
            if (m.getName().matches("toFill|reach|reachIn|cut") && random.nextInt(6) != 0) {
                continue;
            }
            compare(x, y, m, "run " + run + " call " + call);
        }
        tell(spoilt(someText()), x, y, "run " + run + " at last");
        compareTold(x, y, "run " + run + " at last");
    }

    private void compare(HahaLawn x, Naive y, Method m, String name) throws Exception {
        Object[] args = new Object[m.getParameterCount()];
        for (int i = 0; i < args.length; i++) {
            args[i] = m.getParameterTypes()[i] == boolean.class ? (Object) random.nextBoolean() : (Object) someNumber(m, i);
        }
        String call = name + " " + m.getName() + Arrays.toString(args);
        check.due(call, answer(m, x, args), answer(Naive.class.getMethod(m.getName(), m.getParameterTypes()), y, args));
        check.due(call + " trouble", x.trouble(), y.trouble());
    }

    private int someNumber(Method m, int i) {
        int[] odd = {-1, Integer.MIN_VALUE, Integer.MAX_VALUE, 20, 100, 65537, 91, 10, 1 << 20, -2};
        if (random.nextInt(12) == 0) {
            return odd[upTo(odd.length - 1)];
        }
        switch (m.getName()) {
            case "ramble":
            case "rambleFalls":
            case "strayed":
                return i == 0 ? upTo(4) : i == 1 ? upTo(65536) : upTo(90);
            case "place":
            case "walkOdds":
                return i == 0 ? upTo(20) : upTo(4);
            case "minutesTo":
                return i == 0 ? upTo(4) : upTo(20);
            case "minutes":
            case "falls":
                return i == 0 ? upTo(3) : i == 1 ? upTo(20) : upTo(4);
            case "dig":
            case "fill":
            case "gate":
            case "hedge":
            case "passers":
                return upTo(20);
            case "reachIn":
                return i == 0 ? upTo(4) : upTo(12);
            case "quickAt":
            case "dryAt":
                return i == 0 ? upTo(4) : upTo(7);
            case "fitAt":
                return upTo(32);
            case "feed":
                return random.nextInt();
            case "lies":
            case "rest":
            case "rests":
            case "size":
                return upTo(10);
            default:
                return upTo(4);
        }
    }

    private static long answer(Method m, Object on, Object[] args) throws Exception {
        try {
            Object got = m.invoke(on, args);
            return got instanceof Boolean b ? (b ? 1 : 0) : ((Number) got).longValue();
        } catch (InvocationTargetException e) {
            if (e.getCause() instanceof java.util.NoSuchElementException) {
                return Long.MIN_VALUE;
            }
            throw e;
        }
    }
}
