import java.lang.reflect.Constructor;
import java.lang.reflect.Field;
import java.lang.reflect.InvocationTargetException;
import java.lang.reflect.Method;
import java.lang.reflect.Modifier;
import java.nio.file.Files;
import java.nio.file.Path;
import java.util.Arrays;
import java.util.Comparator;
import java.util.Random;
import java.util.Set;
import java.util.TreeSet;
import java.util.regex.Matcher;
import java.util.regex.Pattern;

/** The public face as the document writes it, the rules of the language that can be looked for, and that no call throws. */
public final class FaceTests {
    private static int wrong = 0;

    private static void fault(String what) {
        wrong++;
        System.out.println(what);
    }

    public static void main(String[] args) throws Exception {
        face();
        members();
        words();
        methodsStayShort();
        neverThrows();
        room();
        readmeTellsOfEachCall();
        readmeExample();
        System.out.println(wrong == 0 ? "the face and the rules are kept" : wrong + " faults");
        if (wrong != 0) {
            System.exit(1);
        }
    }

    /** The face is read from the document itself. */
    private static void face() throws Exception {
        Set<String> want = new TreeSet<>();
        Matcher line = Pattern.compile("    public ((?:int )?\\w+)\\((.*)\\);").matcher(Files.readString(Path.of("../shared/DOC.md")));
        while (line.find()) {
            want.add(line.group(1) + "(" + line.group(2).replaceAll(" \\w+(,|$)", "$1").replace(" ", "") + ")");
        }
        Set<String> have = new TreeSet<>();
        for (Constructor<?> c : ReadingLight.class.getDeclaredConstructors()) {
            have.add("ReadingLight" + types(c.getParameterTypes()));
        }
        for (Method m : ReadingLight.class.getDeclaredMethods()) {
            if (!Modifier.isPrivate(m.getModifiers())) {
                have.add(m.getReturnType() + " " + m.getName() + types(m.getParameterTypes()));
            }
        }
        if (want.size() != 41 || !want.equals(have)) {
            fault("the face is " + have + ", due is " + want);
        }
    }

    private static String types(Class<?>[] parameters) {
        return Arrays.toString(parameters).replace("[", "(").replace("]", ")").replace(" ", "");
    }

    private static void members() {
        Class<?> main = ReadingLight.class;
        if (!Modifier.isFinal(main.getModifiers()) || !Modifier.isPublic(main.getModifiers())) {
            fault("the class is not public and final");
        }
        Set<String> open = new TreeSet<>();
        for (Method m : main.getDeclaredMethods()) {
            if (Modifier.isPublic(m.getModifiers())) {
                open.add(m.getName());
            }
        }
        for (Field f : main.getDeclaredFields()) {
            if (!Modifier.isPrivate(f.getModifiers())) {
                fault("a field that is seen from outside: " + f);
            }
        }
        Class<?>[] inside = main.getDeclaredClasses();
        if (inside.length > 11) {
            fault("more than twelve classes");
        }
        checkClass(main, open);
        for (Class<?> c : inside) {
            if (!Modifier.isStatic(c.getModifiers())) {
                fault("not static: " + c);
            }
            checkClass(c, open);
        }
    }

    private static void checkClass(Class<?> c, Set<String> open) {
        int fields = 0;
        for (Field f : c.getDeclaredFields()) {
            if (!Modifier.isStatic(f.getModifiers())) {
                fields++;
            } else if (!Modifier.isFinal(f.getModifiers())) {
                fault("static, but not final: " + f);
            }
        }
        if (fields > 20) {
            fault("more than twenty fields: " + c);
        }
        for (Method m : c.getDeclaredMethods()) {
            if (!Modifier.isPublic(m.getModifiers()) && open.contains(m.getName())) {
                fault("bears the name of a public one: " + m);
            }
            if (m.getParameterCount() > 7) {
                fault("more than seven parameters: " + m);
            }
        }
    }

    private static void words() throws Exception {
        String source = Files.readString(Path.of("src/main/java/ReadingLight.java"));
        String code = source.replaceAll("(?s)/\\*.*?\\*/", "").replaceAll("//.*", "");
        String[] banned = {"\\b(throw|throws|try|catch|synchronized|assert|package)\\b", "->", "::", "\\bstatic \\{", "\\w+Exact\\b",
            "\\b(hashCode|toString|Object|Random|System\\.(?!arraycopy))\\b", "@", "[^\\x00-\\x7f]"};
        for (String b : banned) {
            Matcher m = Pattern.compile(b).matcher(code);
            if (m.find()) {
                fault("outside the language: " + m.group());
            }
        }
        Matcher imports = Pattern.compile("import (.*);").matcher(code);
        while (imports.find()) {
            if (!Set.of("java.util.Arrays", "java.util.ArrayList", "java.util.List").contains(imports.group(1))) {
                fault("outside the library: " + imports.group());
            }
        }
    }

    /** Rule 11: some sixty lines. */
    private static void methodsStayShort() throws Exception {
        String[] lines = Files.readString(Path.of("src/main/java/ReadingLight.java")).split("\n");
        int methods = 0;
        for (int i = 0; i < lines.length; i++) {
            Matcher head = Pattern.compile("( {4}| {8})[a-zA-Z].*\\) \\{").matcher(lines[i]);
            if (!head.matches() || lines[i].trim().matches("(for|if|while|switch)\\b.*")) {
                continue;
            }
            int end = i;
            while (!lines[end].equals(head.group(1) + "}")) {
                end++;
            }
            methods++;
            if (end - i + 1 > 60) {
                fault("more than sixty lines: " + lines[i].trim());
            }
        }
        if (methods < 41) {
            fault("only " + methods + " methods were found");
        }
    }

    /** What an object and 512 of the dearest calls make is far below the room that all calls live in. */
    private static void room() {
        com.sun.management.ThreadMXBean bean = (com.sun.management.ThreadMXBean) java.lang.management.ManagementFactory.getThreadMXBean();
        long thread = Thread.currentThread().getId();
        new ReadingLight().text(0);
        long ahead = bean.getThreadAllocatedBytes(thread);
        ReadingLight x = new ReadingLight();
        long made = bean.getThreadAllocatedBytes(thread) - ahead;
        for (int i = 0; i < 8; i++) {
            x.goer(60, i, 99);
        }
        for (int i = 0; i < 30; i++) {
            // d+d+ .. d+19, 50 bytes of it
            for (int w = 0; w < 6; w++) {
                x.feed(0x2b642b642b642b64L, 8);
            }
            x.feed(0x3931L, 2);
            if (x.text(0) != 1) {
                fault("the longest text is none");
            }
        }
        long texts = bean.getThreadAllocatedBytes(thread) - ahead;
        for (int i = 0; i < 100; i++) {
            x.lead(255, 60);
            x.dark(60);
        }
        long all = bean.getThreadAllocatedBytes(thread) - ahead;
        if (made > 10000 || texts > 40000 || all - texts > 10000) {
            fault("too much is made: " + made + " bytes by an object, " + texts + " by texts, " + (all - texts) + " by thoughts");
        }
    }

    /** Any arguments in any state: the machine never throws. */
    private static void neverThrows() throws Exception {
        int[] odd = {Integer.MIN_VALUE, Integer.MIN_VALUE + 1, -1000000001, -1, 0, 1, 2, 3, 5, 7, 8, 15, 16, 20, 31, 32, 40, 41, 50, 60,
            61, 69, 99, 100, 255, 256, 999, 65535, 65536, 99999, Integer.MAX_VALUE - 1, Integer.MAX_VALUE};
        Method[] acts = Arrays.stream(ReadingLight.class.getDeclaredMethods())
            .filter(m -> Modifier.isPublic(m.getModifiers()))
            .sorted(Comparator.comparing(Method::getName)).toArray(Method[]::new);
        for (int run = 0; run < 100; run++) {
            Random r = new Random(run);
            ReadingLight x = new ReadingLight();
            for (int i = 0; i < 512; i++) {
                Method m = acts[r.nextInt(acts.length)];
                Object[] given = new Object[m.getParameterCount()];
                for (int k = 0; k < given.length; k++) {
                    int v = r.nextBoolean() ? odd[r.nextInt(odd.length)] : r.nextInt(9);
                    given[k] = m.getParameterTypes()[k] == long.class ? (Object) r.nextLong() : (Object) v;
                }
                try {
                    m.invoke(x, given);
                } catch (InvocationTargetException e) {
                    fault(m.getName() + Arrays.toString(given) + " threw " + e.getCause());
                }
            }
        }
    }

    /** README.md has each call with its arguments as the document names them, and each ERROR. */
    private static void readmeTellsOfEachCall() throws Exception {
        String page = Files.readString(Path.of("README.md"));
        Matcher line = Pattern.compile("    public int (\\w+)\\((.*)\\);").matcher(Files.readString(Path.of("../shared/DOC.md")));
        int calls = 0;
        while (line.find()) {
            calls++;
            String call = line.group(1) + "(" + line.group(2).replaceAll("(int|long) ", "") + ")";
            if (!page.contains("\n| `" + call + "` |")) {
                fault("README.md has no row for " + call);
            }
        }
        if (calls != 40) {
            fault("the document has " + calls + " calls, not 40");
        }
        String[] errors = {"BEYOND", "NONE", "STATE", "FULL", "KIND"};
        for (int k = 1; k <= errors.length; k++) {
            if (!page.contains("\n| " + (-1000000000 - k) + " | " + errors[k - 1] + " |")) {
                fault("README.md does not tell of " + errors[k - 1]);
            }
        }
        if (!page.contains("\n.ci/run\n")) {
            fault("README.md does not tell how the tests are run");
        }
    }

    /** Each row of README.md's example answers what stands behind it. */
    private static void readmeExample() throws Exception {
        String page = Files.readString(Path.of("README.md"));
        int begin = page.indexOf("```java\n");
        String[] rows = page.substring(begin + 8, page.indexOf("```", begin + 8)).split("\n");
        ReadingLight x = new ReadingLight();
        int ship = x.goer(14, 3, 3);
        String[] calls = {"int ship = x.goer(14, 3, 3);", "x.set(2, 3);", "x.first(0);", "x.steps(12);", "x.ofGoer(ship, 3);",
            "x.feed(0x39313c64L, 4);", "x.text(0);", "x.as(ship, 2);", "x.told(5);"};
        int[] answers = {ship, x.set(2, 3), x.first(0), x.steps(12), x.ofGoer(ship, 3),
            x.feed(0x39313c64L, 4), x.text(0), x.as(ship, 2), x.told(5)};
        if (rows.length != calls.length + 1 || !rows[0].equals("ReadingLight x = new ReadingLight();")) {
            fault("README.md's example has other rows than this test");
            return;
        }
        for (int i = 0; i < calls.length; i++) {
            if (!rows[i + 1].matches(Pattern.quote(calls[i]) + " +// " + answers[i] + ": .*")) {
                fault("README.md's example: " + rows[i + 1] + "; it answers " + answers[i]);
            }
        }
    }
}
