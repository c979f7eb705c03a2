import java.lang.management.ManagementFactory;
import java.lang.reflect.Constructor;
import java.lang.reflect.Field;
import java.lang.reflect.InvocationTargetException;
import java.lang.reflect.Method;
import java.lang.reflect.Modifier;
import java.nio.charset.StandardCharsets;
import java.nio.file.Files;
import java.nio.file.Path;
import java.util.ArrayList;
import java.util.Arrays;
import java.util.Comparator;
import java.util.List;
import java.util.Random;
import java.util.Set;
import java.util.TreeSet;
import java.util.regex.Matcher;
import java.util.regex.Pattern;

/** The public face, what LANGUAGE.md leaves of Java, the room that dear runs take, and calls with any arguments. */
public final class RulesTest {
    private static final String[] FACE = {"word(long)int", "table(int,int)int", "insert(int)int", "put(int,int,int,long)int",
        "absent(int,int,int)int", "delete(int,int)int", "fill(int,int,int,int)int", "value(int,int,int)long", "records(int)int",
        "compare(int,int,int,long)int", "pair(int,int,int)int", "logic(int,int,int)int", "fits(int,int)int", "source(int)int",
        "where(int,int)int", "join(int,int,int,int)int", "work(int,int,int,int)int", "group(int,int)int",
        "collect(int,int,int)int", "order(int,int,boolean)int", "once(int)int", "cut(int,int,int)int", "also(int,int)int",
        "columns(int)int", "kind(int,int)int", "run(int,int)int", "cell(int,int)long", "isAbsent(int,int)int", "digest()int",
        "looked(int)int", "cost(int,int)long", "expected(int)int", "keep(int)int", "kept(int)int", "keptCell(int,int,int)long",
        "begin()int", "commit()int", "rollback()int", "transfer(int,int)int", "count(int)int", "clear()int"};
    private static final Set<String> IMPORTS = Set.of("java.util.ArrayList", "java.util.List", "java.util.Arrays",
        "java.util.Iterator");
    private static final Set<String> LIBRARY = Set.of("System.arraycopy", "Arrays.copyOf", "Arrays.copyOfRange", "Arrays.fill",
        "List.of");
    private static final String SOURCE = "src/main/java/RecordCounter.java";
    // The room holds 7.3 million fields and elements, most of which are longs here.
    private static final long MOST_BYTES = 30_000_000;

    private static int wrong = 0;

    private static void must(boolean holds, String what) {
        if (!holds) {
            wrong++;
            System.out.println("broken: " + what);
        }
    }

    private static String told(Method m) {
        List<String> types = new ArrayList<>();
        for (Class<?> type : m.getParameterTypes()) types.add(type.getName());
        return m.getName() + "(" + String.join(",", types) + ")" + m.getReturnType().getName();
    }

    private static void face() {
        Class<?> face = RecordCounter.class;
        Set<String> open = new TreeSet<>();
        Set<String> names = new TreeSet<>();
        for (Method m : face.getDeclaredMethods()) {
            boolean isPublic = Modifier.isPublic(m.getModifiers());
            must(isPublic || Modifier.isPrivate(m.getModifiers()), "rule 1: " + m);
            must(!isPublic || !Modifier.isStatic(m.getModifiers()), "rule 1, static: " + m);
            if (isPublic) {
                open.add(told(m));
                names.add(m.getName());
            }
        }
        must(open.equals(new TreeSet<>(Arrays.asList(FACE))), "the face's methods are " + open);
        must(face.getModifiers() == (Modifier.PUBLIC | Modifier.FINAL), "the class is public and final");
        Constructor<?>[] made = face.getDeclaredConstructors();
        must(made.length == 1 && Modifier.isPublic(made[0].getModifiers()) && made[0].getParameterCount() == 0, "the constructor");
        Set<String> constants = new TreeSet<>();
        for (Field f : face.getDeclaredFields()) {
            if (Modifier.isPublic(f.getModifiers())) constants.add(f.getType() + " " + f.getName());
            else must(Modifier.isPrivate(f.getModifiers()), "rule 1: " + f);
        }
        must(constants.equals(Set.of("int BAD", "int KIND", "int STATE", "int FULL", "int MUCH", "long NO")), "constants " + constants);
        List<Class<?>> inside = new ArrayList<>(Arrays.asList(face.getDeclaredClasses()));
        must(inside.size() <= 12, "rule 11: classes");
        for (Class<?> c : inside) {
            int m = c.getModifiers();
            must(Modifier.isStatic(m) && !Modifier.isPublic(m) && !Modifier.isProtected(m), "rules 1, 2: " + c);
        }
        inside.add(face);
        for (Class<?> c : inside) {
            rulesOf(c, names);
        }
    }

    private static void rulesOf(Class<?> c, Set<String> names) {
        int fields = 0;
        for (Field f : c.getDeclaredFields()) {
            boolean constant = Modifier.isStatic(f.getModifiers());
            fields += constant ? 0 : 1;
            must(!constant || Modifier.isFinal(f.getModifiers()), "rule 5: " + f);
        }
        must(fields <= 20, "rule 11: fields of " + c);
        for (Method m : c.getDeclaredMethods()) {
            must(m.getParameterCount() <= 7, "rule 11: " + m);
            must(Modifier.isPublic(m.getModifiers()) || !names.contains(m.getName()), "rule 1, a name of the face: " + m);
        }
    }

    private static void source() throws Exception {
        String text = Files.readString(Path.of(SOURCE), StandardCharsets.UTF_8);
        String code = text.replaceAll("(?s)/\\*.*?\\*/", "").replaceAll("//[^\n]*", "");
        String[] words = {"throw", "throws", "try", "catch", "synchronized", "assert", "volatile", "native", "Object", "package",
            "hashCode", "toString", "Double", "Float", "Thread", "Random", "println"};
        for (String word : words) {
            must(!Pattern.compile("\\b" + word + "\\b").matcher(code).find(), "the source has " + word);
        }
        must(!code.contains("->") && !code.contains("::"), "rule 2: lambdas, method references");
        must(!Pattern.compile("\\bstatic\\s*\\{").matcher(code).find(), "rule 5: a static block");
        must(!code.contains("\" +") && !code.contains("+ \""), "rule 10: texts that are joined by +");
        Matcher brought = Pattern.compile("\\bimport\\s+([\\w.*]+)").matcher(code);
        while (brought.find()) {
            must(IMPORTS.contains(brought.group(1)), "rule 4: import " + brought.group(1));
        }
        Matcher call = Pattern.compile("\\b(Math|Integer|Long|System|Arrays|List)\\.(\\w+)").matcher(code);
        while (call.find()) {
            boolean number = call.group(1).equals("Math") || call.group(1).equals("Integer") || call.group(1).equals("Long");
            must(number ? !call.group(2).endsWith("Exact") : LIBRARY.contains(call.group()), "rule 4: " + call.group());
        }
        methodLengths(text.split("\n"));
    }

    private static void methodLengths(String[] lines) {
        Pattern head = Pattern.compile("^(    |        )(?=\\S)(?!if|for|while|switch|else)[\\w\\[\\] ]+\\(.*\\) \\{$");
        for (int i = 0; i < lines.length; i++) {
            Matcher m = head.matcher(lines[i]);
            if (!m.matches()) continue;
            int end = i;
            while (end < lines.length && !lines[end].equals(m.group(1) + "}")) end++;
            must(end - i + 1 <= 60, "rule 11, length of " + lines[i].trim());
        }
    }

    // ---- the room

    private static long allocated() {
        com.sun.management.ThreadMXBean bean = (com.sun.management.ThreadMXBean) ManagementFactory.getThreadMXBean();
        return bean.getThreadAllocatedBytes(Thread.currentThread().getId());
    }

    private static void room(String what, Runnable calls) {
        calls.run();
        long before = allocated();
        calls.run();
        long bytes = allocated() - before;
        must(bytes <= MOST_BYTES, what + " takes " + bytes + " bytes");
    }

    /** A table of six columns, joins of twelve, and all cleared again: 45 calls each time. */
    private static void joinsMadeAndCleared() {
        RecordCounter x = new RecordCounter();
        for (int calls = 45; calls <= 512; calls += 45) {
            x.clear();
            x.table(6, 0);
            x.begin();
            x.commit();
            x.pair(0, 0, 6);
            int six = x.source(0);
            for (int i = 0; i < 39; i++) x.join(six, six, 0, 0);
        }
    }

    /** Tables of six columns, each remembered by a change, and all cleared again: 9 calls each time. */
    private static void tablesMadeAndCleared() {
        RecordCounter x = new RecordCounter();
        for (int calls = 9; calls <= 512; calls += 9) {
            x.clear();
            for (int i = 0; i < 6; i++) x.table(6, 0);
            x.begin();
            x.commit();
        }
    }

    /** Forty queries of many rows, told anew again and again. */
    private static void runAgain() {
        RecordCounter x = new RecordCounter();
        x.table(3, 0);
        x.fill(0, 50, 1, 9);
        x.pair(0, 0, 3);
        int q = x.source(0);
        int four = x.also(x.also(q, q), x.also(q, q));
        for (int i = 0; i < 36; i++) x.join(four, four, 0, 2 + i % 2);
        x.keep(39);
        for (int i = 0; i < 116; i++) {
            x.begin();
            x.put(0, i % 50, 0, i % 5);
            x.run(39 - i % 30, 0);
            x.rollback();
        }
    }

    private static void manyObjects() {
        for (int i = 0; i < 256; i++) new RecordCounter().clear();
    }

    // ---- any arguments

    private static final long[] FAR = {Long.MIN_VALUE, Long.MAX_VALUE, Integer.MIN_VALUE, Integer.MAX_VALUE, -1, 0};

    /** Mostly a number that something may have, else one about the limits, or a far one. */
    private static Object argument(Class<?> type, Random draws) {
        int sort = draws.nextInt(12);
        long n = sort == 0 ? draws.nextLong() : sort == 1 ? FAR[draws.nextInt(FAR.length)]
            : sort == 2 ? draws.nextInt(250) : sort == 3 ? draws.nextInt(45) - 2 : draws.nextInt(6);
        if (type == boolean.class) return draws.nextBoolean();
        return type == int.class ? (Object) (int) n : (Object) n;
    }

    private static void anyCalls(List<Method> calls, Random draws) throws Exception {
        RecordCounter x = new RecordCounter();
        for (int i = 0; i < 512; i++) {
            Method m = calls.get(draws.nextInt(calls.size()));
            if (m.getName().equals("clear") && draws.nextInt(20) != 0) continue;
            Object[] arguments = new Object[m.getParameterCount()];
            for (int a = 0; a < arguments.length; a++) arguments[a] = argument(m.getParameterTypes()[a], draws);
            try {
                m.invoke(x, arguments);
            } catch (InvocationTargetException e) {
                must(false, "rule 7: " + m.getName() + Arrays.toString(arguments) + " throws " + e.getCause());
                return;
            }
        }
    }

    private static void anyArguments() throws Exception {
        List<Method> calls = new ArrayList<>();
        for (Method m : RecordCounter.class.getDeclaredMethods()) {
            if (Modifier.isPublic(m.getModifiers())) calls.add(m);
        }
        calls.sort(Comparator.comparing(Method::getName));
        for (int seed = 1; seed <= 600; seed++) anyCalls(calls, new Random(seed));
    }

    public static void main(String[] args) throws Exception {
        face();
        source();
        anyArguments();
        room("a run that makes joins and clears", RulesTest::joinsMadeAndCleared);
        room("a run that makes tables and clears", RulesTest::tablesMadeAndCleared);
        room("a run that runs again", RulesTest::runAgain);
        room("a run of many objects", RulesTest::manyObjects);
        System.out.println(wrong == 0 ? "all rules hold" : wrong + " rules are broken");
        if (wrong != 0) System.exit(1);
    }
}
