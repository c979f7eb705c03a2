import java.lang.reflect.InvocationTargetException;
import java.lang.reflect.Method;
import java.lang.reflect.Modifier;
import java.util.Arrays;
import java.util.Comparator;

/**
 * What the project's tests share. A test class extends this one; each static method of it that is
 * not private, takes nothing and answers nothing is a test of its own. ROWS are told as "1,2|-,3", where - is an ABSENT
 * VALUE and () a ROW without COLUMNS.
 */
abstract class Checks {
    static final int BAD = -1, KIND = -2, STATE = -3, FULL = -4, MUCH = -5;
    static final long NO = Long.MIN_VALUE, MAX = Long.MAX_VALUE, NAN = 9221120237041090560L;
    static final int MIN_INT = Integer.MIN_VALUE, MAX_INT = Integer.MAX_VALUE;
    static final int LONG = 0, REAL = 1, WORD = 2, DAY = 3, TRUTH = 4;
    /** Numbers that no TABLE, RECORD, column, TEST, QUERY or KEPT RESULT of these tests has. */
    static final int[] NOT_THERE = {-1, 250, MIN_INT, MAX_INT};

    static Told x = new Told();
    private static String sentence = "";
    private static int wrong = 0;
    private static int asked = 0;

    /** A new object; what is told from here on is about this sentence of the document. */
    static void sentence(int promise, String words) {
        sentence = (promise == 0 ? "Terms" : "promise " + promise) + ": " + words;
        x = new Told();
    }

    static void fresh(int promise) {
        sentence(promise, "");
    }

    /** The same object goes on, about another promise. */
    static void promise(int number) {
        sentence = "promise " + number;
    }

    static void due(String what, long got, long want) {
        asked++;
        if (got != want) {
            fault(what + " answered " + got + ", due is " + want);
        }
    }

    static void dueText(String what, String got, String want) {
        asked++;
        if (!got.equals(want)) {
            fault(what + " has " + got + ", due is " + want);
        }
    }

    static void fault(String what) {
        wrong++;
        if (wrong <= 60) {
            System.out.println(sentence + "\n  " + what);
        }
    }

    /** Plays all tests of a class, by their names, and ends with 1 if an answer was not as due. */
    static void playAll(Class<?> tests) throws IllegalAccessException {
        Method[] all = tests.getDeclaredMethods();
        Arrays.sort(all, Comparator.comparing(Method::getName));
        int played = 0;
        for (Method m : all) {
            boolean isTest = Modifier.isStatic(m.getModifiers()) && !Modifier.isPrivate(m.getModifiers())
                && m.getParameterCount() == 0 && m.getReturnType() == void.class;
            if (isTest) {
                played++;
                play(m);
            }
        }
        boolean holds = wrong == 0 && played > 0 && asked > 0;
        System.out.println(played + " tests, " + asked + " answers: " + (holds ? "all are as due" : wrong + " are not as due"));
        if (!holds) {
            System.exit(1);
        }
    }

    private static void play(Method m) throws IllegalAccessException {
        try {
            m.setAccessible(true);
            m.invoke(null);
        } catch (InvocationTargetException e) {
            fault(m.getName() + ": " + e.getCause());
            e.getCause().printStackTrace(System.out);
        }
    }

    // ---- making

    static int kinds(int... each) {
        int all = 0;
        for (int c = 0; c < each.length; c++) {
            all |= each[c] << 3 * c;
        }
        return all;
    }

    static int tableOf(String rows, int... kinds) {
        int t = x.table(kinds.length, kinds(kinds));
        load(t, rows);
        return t;
    }

    static int longs(String rows, int columns) {
        return tableOf(rows, new int[columns]);
    }

    /** A SOURCE of a new TABLE that has these ROWS. */
    static int sourceOf(String rows, int... kinds) {
        return x.source(tableOf(rows, kinds));
    }

    static void load(int t, String rows) {
        if (rows.isEmpty()) {
            return;
        }
        for (String row : rows.split("\\|")) {
            int record = x.insert(t);
            String[] cells = row.split(",");
            for (int c = 0; c < cells.length; c++) {
                if (!cells[c].equals("-")) {
                    due("put() of " + cells[c], x.put(t, record, c, Long.parseLong(cells[c])), 1);
                }
            }
        }
    }

    static String rowsOf(long... values) {
        StringBuilder s = new StringBuilder();
        for (int i = 0; i < values.length; i++) {
            s.append(i > 0 ? "|" : "").append(values[i]);
        }
        return s.toString();
    }

    static long real(double d) {
        return Double.doubleToLongBits(d);
    }

    /** 1 is a, 28 is aa .. */
    static long letters(String s) {
        long l = 0;
        for (char c : s.toCharArray()) {
            l = 27 * l + c - 'a' + 1;
        }
        return l;
    }

    /** So many WORDS of three letters: baa, bab .. */
    static void addWords(int n) {
        for (int i = 0; i < n; i++) {
            x.word(letters("b" + (char) ('a' + i / 26) + (char) ('a' + i % 26)));
        }
    }

    static void fillQueries(int t) {
        while (x.count(3) < 40) {
            x.source(t);
        }
    }

    static void fillTests() {
        while (x.count(2) < 100) {
            x.pair(0, 0, 1);
        }
    }

    static void deleteAll(int t, int from, int to) {
        for (int record = from; record < to; record++) {
            x.delete(t, record);
        }
    }

    // ---- looking

    static String latest(Told at) {
        StringBuilder s = new StringBuilder();
        int rows = at.count(5);
        int columns = at.count(6);
        for (int row = 0; row < rows; row++) {
            s.append(row > 0 ? "|" : "").append(columns == 0 ? "()" : "");
            for (int c = 0; c < columns; c++) {
                s.append(c > 0 ? "," : "");
                s.append(at.isAbsent(row, c) == 1 ? "-" : Long.toString(at.cell(row, c)));
            }
        }
        return s.toString();
    }

    static int howMany(String rows) {
        return rows.isEmpty() ? 0 : rows.split("\\|").length;
    }

    static void dueRun(String what, int q, String want) {
        for (int plan = 3; plan >= 0; plan--) {
            due("run() of " + what + " by plan " + plan, x.run(q, plan), howMany(want));
            dueText(what + " by plan " + plan, latest(x), want);
        }
    }

    /** What a column has, ROW by ROW. */
    static void dueColumn(String what, int q, int column, String want) {
        due("run() of " + what, x.run(q, 1), howMany(want));
        StringBuilder s = new StringBuilder();
        for (int row = 0; row < x.count(5); row++) {
            s.append(row > 0 ? "|" : "").append(x.isAbsent(row, column) == 1 ? "-" : Long.toString(x.cell(row, column)));
        }
        dueText(what, s.toString(), want);
    }

    static String keptRows(int k, int columns) {
        StringBuilder s = new StringBuilder();
        for (int row = 0; row < x.kept(k); row++) {
            s.append(row > 0 ? "|" : "");
            for (int c = 0; c < columns; c++) {
                s.append(c > 0 ? "," : "").append(x.keptCell(k, row, c));
            }
        }
        return s.toString();
    }
}
