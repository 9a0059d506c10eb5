import java.lang.management.ManagementFactory;
import java.lang.reflect.Constructor;
import java.lang.reflect.Field;
import java.lang.reflect.Method;
import java.lang.reflect.Modifier;
import java.nio.file.Files;
import java.nio.file.Path;
import java.util.ArrayList;
import java.util.Arrays;
import java.util.HashSet;
import java.util.List;
import java.util.Set;
import java.util.TreeSet;
import java.util.regex.Matcher;
import java.util.regex.Pattern;

/** The rules of LANGUAGE.md that can be looked at from outside: the face, the words, the lengths, the room. */
public final class LanguageTest {
    private static final String FACE = "feed(int,int,int,int,int)int park(int)int fault()int where()int place(int,int)int "
        + "walker(int,int)int minutes(int,int,int)int falls(int,int,int)int all(int)int quick(int)int quickFalls(int)int "
        + "quickAt(int,int)int dry(int)int dryMinutes(int)int dryAt(int,int)int reach(int)int reachIn(int,int)int "
        + "minutesTo(int,int)int latest()int cut(int)int gates()int toFill()int trap()int meet(int,int)int "
        + "meetAt(int,int)int passers(int)int fits()int fitAt(int)int odds(int,boolean)long likeliest()int tread()int "
        + "treadLeaves()int judge()int walkOdds(int,int,boolean)long lies(int,boolean,boolean,boolean)int rests(int)int "
        + "rest(int)int fallOdds(int,int,boolean)long mean(int,boolean)long ramble(int,int,int)int "
        + "rambleFalls(int,int,int)int strayed(int,int,int)int step(int,int)int dig(int)boolean fill(int)boolean "
        + "gate(int)boolean hedge(int)boolean undo()boolean image()int back(int)boolean led(int)int size(int)int "
        + "trouble()int";
    private static final Path SOURCE = Path.of("src", "main", "java", "HahaLawn.java");

    private final Check check = new Check();

    public static void main(String[] args) throws Exception {
        LanguageTest test = new LanguageTest();
        test.face();
        test.members();
        test.words();
        test.lengths();
        test.room();
        test.check.finish("LanguageTest");
    }

    private void face() throws Exception {
        Set<String> got = new TreeSet<>();
        for (Method m : HahaLawn.class.getDeclaredMethods()) {
            if (!Modifier.isPrivate(m.getModifiers())) {
                StringBuilder text = new StringBuilder(m.getName()).append('(');
                for (Class<?> type : m.getParameterTypes()) {
                    text.append(text.charAt(text.length() - 1) == '(' ? "" : ",").append(type.getName());
                }
                got.add(text.append(')').append(m.getReturnType().getName()).toString());
                check.due(m.getName() + " is public, of an object", m.getModifiers() == Modifier.PUBLIC, true);
            }
        }
        Set<String> want = new TreeSet<>(Arrays.asList(FACE.split(" ")));
        check.due("the face " + got, got.equals(want), true);
        check.due("methods of the face", want.size(), 53);
        check.due("the class is public and final", HahaLawn.class.getModifiers() == (Modifier.PUBLIC | Modifier.FINAL), true);
        Constructor<?>[] constructors = HahaLawn.class.getDeclaredConstructors();
        check.due("constructors", constructors.length, 1);
        check.due("its parameters", constructors[0].getParameterCount(), 0);
        check.due("led tells what it throws", HahaLawn.class.getMethod("led", int.class).getExceptionTypes().length, 1);
        for (Field f : HahaLawn.class.getDeclaredFields()) {
            check.due(f.getName() + " is private, but for NONE", Modifier.isPrivate(f.getModifiers()), !f.getName().equals("NONE"));
        }
    }

    private static List<Class<?>> classes() {
        List<Class<?>> list = new ArrayList<>(Arrays.asList(HahaLawn.class.getDeclaredClasses()));
        list.add(HahaLawn.class);
        return list;
    }

    private void members() {
        Set<String> open = new HashSet<>();
        for (Method m : HahaLawn.class.getMethods()) {
            open.add(m.getName());
        }
        check.due("some twelve classes", classes().size() <= 13, true);
        for (Class<?> c : classes()) {
            check.due(c.getName() + " is static", c == HahaLawn.class || Modifier.isStatic(c.getModifiers()), true);
            int fields = 0;
            for (Field f : c.getDeclaredFields()) {
                boolean isStatic = Modifier.isStatic(f.getModifiers());
                fields += isStatic ? 0 : 1;
                check.due(f + " is final if it is static", !isStatic || Modifier.isFinal(f.getModifiers()), true);
            }
            check.due("some twenty fields in " + c, fields <= 20, true);
            for (Method m : c.getDeclaredMethods()) {
                boolean own = c == HahaLawn.class && Modifier.isPublic(m.getModifiers());
                check.due(m + " has a name of its own", own || !open.contains(m.getName()), true);
                check.due(m + " takes at most seven", m.getParameterCount() <= 7, true);
            }
        }
    }

    private static String code() throws Exception {
        String text = Files.readString(SOURCE);
        return text.replaceAll("(?s)/\\*.*?\\*/", "").replaceAll("//[^\n]*", "").replaceAll("\"[^\"\n]*\"", "\"\"");
    }

    private int times(String pattern, String text) {
        Matcher m = Pattern.compile(pattern).matcher(text);
        int n = 0;
        while (m.find()) {
            n++;
        }
        return n;
    }

    private void words() throws Exception {
        String code = code();
        for (String word : List.of("->", "::", "\\btry\\b", "\\bcatch\\b", "\\bfinally\\b", "\\bsynchronized\\b", "\\bassert\\b",
            "\\binstanceof\\b", "\\bpackage\\b", "\\bprotected\\b", "Exact\\b", "\\bObject\\b", "@", "\\bdouble\\b", "\\bfloat\\b",
            "static \\{", "\\.hashCode", "\\.equals", "\\bThread\\b", "\\bRandom\\b")) {
            check.due("times of " + word, times(word, code), 0);
        }
        check.due("imports", times("\\bimport\\b", code), 1);
        check.due("throws by hand", times("\\bthrow\\b", code), 1);
        check.due("libraries", times("\\b(System|Math|Integer|Long|Arrays)\\.(?!(arraycopy|max|min|bitCount)\\()", code), 0);
    }

    private void lengths() throws Exception {
        int began = -1;
        List<String> lines = Files.readAllLines(SOURCE);
        for (int i = 0; i < lines.size(); i++) {
            String line = lines.get(i);
            if (line.matches(" {4,8}[A-Za-z].*\\) (throws \\w+ )?\\{")) {
                began = i;
            }
            if (line.matches(" {4,8}\\}") && began >= 0) {
                check.due("length of the method in line " + (began + 1), i - began < 60, true);
                began = -1;
            }
            check.due("width of line " + (i + 1), line.length() <= 120, true);
        }
    }

    /** What is made is made in constructors: the dearest calls make nothing. */
    private void room() {
        HahaLawn x = Check.lawn("park wide 5 deep 4 errs 20 slips 50;row ooooo;row dduuu;row ooddd;row ddddo"
            + ";walker a guest at 0 0 to 4 3;walker b child at 1 0 to 1 2;walker c keeper at 2 2 to 0 0"
            + ";walker d colonel at 3 0 to 3 3;walk 3 0 steps 1 fell;walk 0 0 steps 2 dry");
        com.sun.management.ThreadMXBean threads = (com.sun.management.ThreadMXBean) ManagementFactory.getThreadMXBean();
        long sum = dearest(x);
        long before = threads.getCurrentThreadAllocatedBytes();
        for (int i = 0; i < 100; i++) {
            sum += dearest(x);
        }
        long made = threads.getCurrentThreadAllocatedBytes() - before;
        check.due("something was answered", sum != 0, true);
        check.due("bytes made by 100 rounds, " + made, made < 4096, true);
    }

    private static long dearest(HahaLawn x) {
        long sum = x.gates() + x.cut(0) + x.toFill() + x.trap() + x.meet(0, 1) + x.odds(0, true) + x.fallOdds(0, 1, true)
            + x.ramble(0, 5, 90) + x.reachIn(0, 99) + x.passers(3) + x.image() + x.latest() + x.park(1);
        for (int i = 0; i < 20; i++) {
            sum += x.step(3, i % 2 == 0 ? 1 : 3) + (x.dig(5) ? 1 : 0) + (x.fill(5) ? 1 : 0) + (x.undo() ? 1 : 0);
        }
        return sum + (x.back(0) ? 1 : 0);
    }
}
