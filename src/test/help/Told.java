import java.lang.reflect.InvocationTargetException;
import java.lang.reflect.Method;
import java.util.ArrayList;
import java.util.HashMap;
import java.util.List;
import java.util.Map;
import java.util.Set;

/**
 * A RecordCounter whose calls are told. The document promises nothing about an object after its 512th
 * call; so ahead of that a new object takes over, on which all calls that may have changed something are
 * made again, the refused ones too. A test can then look at as much as it likes.
 */
final class Told {
    static final int MOST_CALLS = 512;
    private static final Set<String> LOOKS = Set.of("value", "records", "fits", "columns", "kind", "cell", "isAbsent",
        "digest", "looked", "cost", "expected", "kept", "keptCell", "count");
    private static final Map<String, Method> FACE = new HashMap<>();

    static {
        for (Method m : RecordCounter.class.getDeclaredMethods()) {
            if (java.lang.reflect.Modifier.isPublic(m.getModifiers())) {
                FACE.put(m.getName(), m);
            }
        }
    }

    private record Call(String name, long[] arguments, long answer) {
        String asText() {
            StringBuilder s = new StringBuilder(name).append('(');
            for (int i = 0; i < arguments.length; i++) {
                s.append(i > 0 ? ", " : "").append(arguments[i]);
            }
            return s.append(") = ").append(answer).toString();
        }
    }

    private final List<Call> calls = new ArrayList<>();
    private RecordCounter counter = new RecordCounter();
    private int made = 0;

    /** Another object with which the same was done. */
    Told twin() {
        Told other = new Told();
        other.calls.addAll(calls);
        other.renew();
        return other;
    }

    /** All calls that may have changed something, for a message. */
    String story() {
        StringBuilder s = new StringBuilder();
        for (Call call : calls) {
            s.append("    ").append(call.asText()).append('\n');
        }
        return s.toString();
    }

    long call(String name, long... arguments) {
        return call(name, !LOOKS.contains(name), arguments);
    }

    /** A call that is made again on each new object, also if it can only look. */
    long callForGood(String name, long... arguments) {
        return call(name, true, arguments);
    }

    private long call(String name, boolean forGood, long... arguments) {
        if (made >= MOST_CALLS) {
            renew();
        }
        long answer = ask(name, arguments);
        if (forGood) {
            if (name.equals("run")) {
                forgetRuns(answer >= 0);
            }
            calls.add(new Call(name, arguments, answer));
        }
        return answer;
    }

    /** Only the latest run that was not refused can be seen; of refused ones in a row the last one may stand for all. */
    private void forgetRuns(boolean all) {
        int last = calls.size() - 1;
        if (all) {
            calls.removeIf(c -> c.name.equals("run"));
        } else if (last >= 0 && calls.get(last).name.equals("run") && calls.get(last).answer < 0) {
            calls.remove(last);
        }
    }

    private void renew() {
        counter = new RecordCounter();
        made = 0;
        for (Call call : calls) {
            long answer = ask(call.name, call.arguments);
            if (answer != call.answer) {
                throw new AssertionError(call.asText() + " on one object, " + answer + " on another one, behind\n" + story());
            }
        }
        if (made >= MOST_CALLS) {
            throw new AssertionError("this test makes more calls on one object than the document has:\n" + story());
        }
    }

    private long ask(String name, long[] arguments) {
        Method m = FACE.get(name);
        Class<?>[] types = m.getParameterTypes();
        Object[] each = new Object[arguments.length];
        for (int i = 0; i < arguments.length; i++) {
            if (types[i] == boolean.class) {
                each[i] = arguments[i] != 0;
            } else if (types[i] == int.class) {
                each[i] = Math.toIntExact(arguments[i]);
            } else {
                each[i] = arguments[i];
            }
        }
        made++;
        try {
            return ((Number) m.invoke(counter, each)).longValue();
        } catch (InvocationTargetException e) {
            throw new AssertionError(name + " threw behind\n" + story(), e.getCause());
        } catch (IllegalAccessException e) {
            throw new AssertionError(e);
        }
    }

    // ---- the face

    int word(long letters) {
        return (int) call("word", letters);
    }

    int table(int n, int kinds) {
        return (int) call("table", n, kinds);
    }

    int insert(int t) {
        return (int) call("insert", t);
    }

    int put(int t, int record, int column, long bits) {
        return (int) call("put", t, record, column, bits);
    }

    int absent(int t, int record, int column) {
        return (int) call("absent", t, record, column);
    }

    int delete(int t, int record) {
        return (int) call("delete", t, record);
    }

    int fill(int t, int n, int z, int spread) {
        return (int) call("fill", t, n, z, spread);
    }

    long value(int t, int record, int column) {
        return call("value", t, record, column);
    }

    int records(int t) {
        return (int) call("records", t);
    }

    int compare(int code, int column, int kind, long bits) {
        return (int) call("compare", code, column, kind, bits);
    }

    int pair(int code, int a, int b) {
        return (int) call("pair", code, a, b);
    }

    int logic(int way, int a, int b) {
        return (int) call("logic", way, a, b);
    }

    int fits(int test, int q) {
        return (int) call("fits", test, q);
    }

    int source(int t) {
        return (int) call("source", t);
    }

    int where(int q, int test) {
        return (int) call("where", q, test);
    }

    int join(int q, int r, int test, int way) {
        return (int) call("join", q, r, test, way);
    }

    int work(int q, int function, int a, int b) {
        return (int) call("work", q, function, a, b);
    }

    int group(int q, int set) {
        return (int) call("group", q, set);
    }

    int collect(int q, int collector, int column) {
        return (int) call("collect", q, collector, column);
    }

    int order(int q, int column, boolean down) {
        return (int) call("order", q, column, down ? 1 : 0);
    }

    int once(int q) {
        return (int) call("once", q);
    }

    int cut(int q, int skip, int n) {
        return (int) call("cut", q, skip, n);
    }

    int also(int q, int r) {
        return (int) call("also", q, r);
    }

    int columns(int q) {
        return (int) call("columns", q);
    }

    int kind(int q, int column) {
        return (int) call("kind", q, column);
    }

    int run(int q, int plan) {
        return (int) call("run", q, plan);
    }

    long cell(int row, int column) {
        return call("cell", row, column);
    }

    int isAbsent(int row, int column) {
        return (int) call("isAbsent", row, column);
    }

    int digest() {
        return (int) call("digest");
    }

    int looked(int what) {
        return (int) call("looked", what);
    }

    long cost(int q, int plan) {
        return call("cost", q, plan);
    }

    int expected(int q) {
        return (int) call("expected", q);
    }

    int keep(int q) {
        return (int) call("keep", q);
    }

    int kept(int k) {
        return (int) call("kept", k);
    }

    long keptCell(int k, int row, int column) {
        return call("keptCell", k, row, column);
    }

    int begin() {
        return (int) call("begin");
    }

    int commit() {
        return (int) call("commit");
    }

    int rollback() {
        return (int) call("rollback");
    }

    int transfer(int q, int t) {
        return (int) call("transfer", q, t);
    }

    int count(int what) {
        return (int) call("count", what);
    }

    int clear() {
        return (int) call("clear");
    }
}
