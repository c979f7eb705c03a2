import java.math.BigInteger;
import java.util.ArrayList;
import java.util.Arrays;
import java.util.Collections;
import java.util.Comparator;
import java.util.HashSet;
import java.util.LinkedHashMap;
import java.util.List;
import java.util.Map;
import java.util.Set;
import java.util.TreeMap;

/**
 * Many drawn runs of calls: each answer is compared with that of a second counter, which is written
 * from the document alone, with the Java library and without any thought of room or speed.
 */
public final class PlainCounterTest {
    static final int BAD = -1, KIND = -2, STATE = -3, FULL = -4, MUCH = -5;
    static final long NO = Long.MIN_VALUE;

    static final class TooMuch extends RuntimeException {
        private static final long serialVersionUID = 1L;
    }

    static final class PlainTable {
        int[] kinds;
        TreeMap<Integer, Long[]> records = new TreeMap<>();
        int next;

        PlainTable copy() {
            PlainTable c = new PlainTable();
            c.kinds = kinds;
            c.next = next;
            for (Map.Entry<Integer, Long[]> e : records.entrySet()) {
                c.records.put(e.getKey(), e.getValue().clone());
            }
            return c;
        }
    }

    static final class PlainTest {
        String form;
        int code, a, b, kind, size = 1;
        long bits;
        PlainTest left, right;
    }

    static final class PlainQuery {
        String form;
        int number;
        List<Integer> kinds = new ArrayList<>();
        PlainQuery q, r;
        int t, way, a, b;
        PlainTest test;
    }

    static final class Plain {
        List<String> words = new ArrayList<>();
        List<PlainTable> tables = new ArrayList<>();
        List<PlainTable> old;
        List<PlainTest> tests = new ArrayList<>();
        List<PlainQuery> queries = new ArrayList<>();
        List<PlainQuery> keptOnes = new ArrayList<>();
        List<Long[]> latest = new ArrayList<>();
        int latestColumns, latestLooked, latestPlan, had;

        static String spell(long letters) {
            StringBuilder s = new StringBuilder();
            for (long l = letters; l > 0; l /= 27) {
                if (l % 27 == 0) {
                    return null;
                }
                s.insert(0, (char) ('a' + l % 27 - 1));
            }
            return s.length() < 1 || s.length() > 12 ? null : s.toString();
        }

        int word(long letters) {
            String s = spell(letters);
            if (s == null) return BAD;
            if (words.contains(s)) return words.indexOf(s);
            if (words.size() == 100) return FULL;
            words.add(s);
            return words.size() - 1;
        }

        int table(int n, int kinds) {
            if (n < 1 || n > 6) return BAD;
            PlainTable t = new PlainTable();
            t.kinds = new int[n];
            for (int c = 0; c < n; c++) {
                t.kinds[c] = Math.floorMod(kinds >> 3 * c, 8);
                if (t.kinds[c] > 4) return BAD;
            }
            if (old != null) return STATE;
            if (tables.size() == 6) return FULL;
            tables.add(t);
            return tables.size() - 1;
        }

        PlainTable t(int t) {
            return t >= 0 && t < tables.size() ? tables.get(t) : null;
        }

        boolean room(PlainTable t, int n) {
            return t.records.size() + n <= 60 && t.next + n <= 200;
        }

        int insert(int t) {
            if (t(t) == null) return BAD;
            if (!room(t(t), 1)) return FULL;
            t(t).records.put(t(t).next, new Long[t(t).kinds.length]);
            had++;
            return t(t).next++;
        }

        boolean isBits(int kind, long bits) {
            if (kind == 0 || kind == 1) return true;
            if (kind == 2) return bits >= 0 && bits < words.size();
            if (kind == 3) return bits >= -3000000 && bits <= 3000000;
            return kind == 4 && (bits == 0 || bits == 1);
        }

        static long settle(int kind, long bits) {
            return kind == 1 ? Double.doubleToLongBits(Double.longBitsToDouble(bits)) : bits;
        }

        boolean there(int t, int record, int column) {
            return t(t) != null && t(t).records.containsKey(record) && column >= 0 && column < t(t).kinds.length;
        }

        int put(int t, int record, int column, long bits) {
            if (!there(t, record, column) || !isBits(t(t).kinds[column], bits)) return BAD;
            t(t).records.get(record)[column] = settle(t(t).kinds[column], bits);
            had++;
            return 1;
        }

        int absent(int t, int record, int column) {
            if (!there(t, record, column)) return BAD;
            t(t).records.get(record)[column] = null;
            had++;
            return 1;
        }

        int delete(int t, int record) {
            if (!there(t, record, 0)) return BAD;
            t(t).records.remove(record);
            had++;
            return t(t).records.size();
        }

        int fill(int t, int n, int z, int spread) {
            if (t(t) == null || n < 1 || n > 60 || spread < 1 || spread > 1000000) return BAD;
            if (!room(t(t), n)) return FULL;
            int first = t(t).next;
            BigInteger draw = BigInteger.valueOf(z);
            for (int i = 0; i < n; i++) {
                Long[] values = new Long[t(t).kinds.length];
                for (int c = 0; c < values.length; c++) {
                    draw = draw.multiply(BigInteger.valueOf(1103515245)).add(BigInteger.valueOf(12345))
                        .mod(BigInteger.ONE.shiftLeft(31));
                    long zz = draw.longValue();
                    long d = (zz / 256) % spread;
                    if (zz / (1 << 27) == 0) continue;
                    switch (t(t).kinds[c]) {
                        case 1: values[c] = Double.doubleToLongBits((d - spread / 2) / 4.0); break;
                        case 2: values[c] = words.isEmpty() ? null : (Long) (d % words.size()); break;
                        case 4: values[c] = d % 2; break;
                        default: values[c] = d - spread / 2;
                    }
                }
                t(t).records.put(t(t).next++, values);
            }
            had++;
            return first;
        }

        long value(int t, int record, int column) {
            if (!there(t, record, column)) return NO;
            Long v = t(t).records.get(record)[column];
            return v == null ? NO : v;
        }

        int records(int t) {
            return t(t) == null ? BAD : t(t).records.size();
        }

        int addTest(PlainTest x) {
            if (tests.size() == 100) return FULL;
            tests.add(x);
            return tests.size() - 1;
        }

        int compare(int code, int column, int kind, long bits) {
            if (code < 0 || code > 3 || column < 0 || column > 23) return BAD;
            if (code < 3 && !isBits(kind, bits)) return BAD;
            PlainTest x = new PlainTest();
            x.form = "compare";
            x.code = code;
            x.a = column;
            x.kind = kind;
            x.bits = settle(kind, bits);
            return addTest(x);
        }

        int pair(int code, int a, int b) {
            if (code < 0 || code > 2 || a < 0 || a > 23 || b < 0 || b > 23) return BAD;
            PlainTest x = new PlainTest();
            x.form = "pair";
            x.code = code;
            x.a = a;
            x.b = b;
            return addTest(x);
        }

        PlainTest test(int n) {
            return n >= 0 && n < tests.size() ? tests.get(n) : null;
        }

        int logic(int way, int a, int b) {
            if (way < 0 || way > 2 || test(a) == null || way < 2 && test(b) == null) return BAD;
            PlainTest x = new PlainTest();
            x.form = "logic";
            x.code = way;
            x.left = test(a);
            x.right = way < 2 ? test(b) : null;
            x.size = 1 + x.left.size + (way < 2 ? x.right.size : 0);
            return x.size > 40 ? FULL : addTest(x);
        }

        boolean fit(PlainTest x, List<Integer> kinds) {
            switch (x.form) {
                case "compare": return x.a < kinds.size() && (x.code == 3 || kinds.get(x.a) == x.kind);
                case "pair": return x.a < kinds.size() && x.b < kinds.size() && kinds.get(x.a).equals(kinds.get(x.b));
                default: return fit(x.left, kinds) && (x.right == null || fit(x.right, kinds));
            }
        }

        PlainQuery query(int q) {
            return q >= 0 && q < queries.size() ? queries.get(q) : null;
        }

        int fits(int test, int q) {
            return test(test) == null || query(q) == null ? BAD : fit(test(test), query(q).kinds) ? 1 : 0;
        }

        PlainQuery made(String form, PlainQuery q, List<Integer> kinds) {
            PlainQuery x = new PlainQuery();
            x.form = form;
            x.q = q;
            x.kinds.addAll(kinds);
            return x;
        }

        int add(PlainQuery x) {
            if (queries.size() == 40) return FULL;
            x.number = queries.size();
            queries.add(x);
            return x.number;
        }

        int source(int t) {
            if (t(t) == null) return BAD;
            PlainQuery x = new PlainQuery();
            x.form = "source";
            x.t = t;
            for (int k : t(t).kinds) x.kinds.add(k);
            return add(x);
        }

        int where(int q, int test) {
            if (query(q) == null || test(test) == null) return BAD;
            if (fits(test, q) != 1) return KIND;
            PlainQuery x = made("where", query(q), query(q).kinds);
            x.test = test(test);
            return add(x);
        }

        int join(int q, int r, int test, int way) {
            if (query(q) == null || query(r) == null || test(test) == null || way < 0 || way > 3) return BAD;
            List<Integer> both = new ArrayList<>(query(q).kinds);
            both.addAll(query(r).kinds);
            if (both.size() > 12 || !fit(test(test), both)) return KIND;
            PlainQuery x = made("join", query(q), way < 2 ? both : query(q).kinds);
            x.r = query(r);
            x.test = test(test);
            x.way = way;
            return add(x);
        }

        int work(int q, int function, int a, int b) {
            PlainQuery from = query(q);
            if (from == null || function < 0 || function > 12) return BAD;
            int n = from.kinds.size();
            int told;
            if (function == 12) {
                if (test(a) == null) return BAD;
                if (!fit(test(a), from.kinds)) return KIND;
                told = 4;
            } else {
                if (a < 0 || a >= n) return BAD;
                boolean needsB = function != 9 && function != 11;
                if (needsB && (b < 0 || b >= n)) return BAD;
                int ka = from.kinds.get(a);
                int kb = needsB ? from.kinds.get(b) : -1;
                if (function <= 3) {
                    if (ka != 0 || kb != 0) return KIND;
                    told = 0;
                } else if (function <= 6) {
                    if (ka != kb) return KIND;
                    told = ka;
                } else if (function == 7) {
                    if (ka != 3 || kb != 3) return KIND;
                    told = 0;
                } else if (function == 8) {
                    if (ka != 3 || kb != 0) return KIND;
                    told = 3;
                } else if (function == 9) {
                    if (ka != 2) return KIND;
                    told = 0;
                } else {
                    if (function == 10 && ka != kb) return KIND;
                    told = 4;
                }
            }
            if (n == 12) return KIND;
            PlainQuery x = made("work", from, from.kinds);
            x.kinds.add(told);
            x.way = function;
            x.a = a;
            x.b = b;
            x.test = function == 12 ? test(a) : null;
            return add(x);
        }

        int group(int q, int set) {
            if (query(q) == null) return BAD;
            List<Integer> kinds = new ArrayList<>();
            for (int c = 0; c < 32; c++) {
                if ((set & 1 << c) == 0) continue;
                if (c >= query(q).kinds.size()) return BAD;
                kinds.add(query(q).kinds.get(c));
            }
            PlainQuery x = made("group", query(q), kinds);
            x.a = set;
            return add(x);
        }

        static PlainQuery groupOf(PlainQuery x) {
            while (x.form.equals("collect")) x = x.q;
            return x.form.equals("group") ? x : null;
        }

        int collect(int q, int collector, int column) {
            if (query(q) == null || collector < 0 || collector > 10) return BAD;
            PlainQuery group = groupOf(query(q));
            if (group == null) return KIND;
            int told = 0;
            if (collector > 0) {
                if (column < 0 || column >= group.q.kinds.size()) return BAD;
                int kind = group.q.kinds.get(column);
                if ((collector == 2 || collector == 9) && kind != 0) return KIND;
                if (Arrays.asList(3, 4, 6, 7, 8, 10).contains(collector)) told = kind;
            }
            if (query(q).kinds.size() == 12) return KIND;
            PlainQuery x = made("collect", query(q), query(q).kinds);
            x.kinds.add(told);
            x.way = collector;
            x.a = column;
            return add(x);
        }

        int order(int q, int column, boolean down) {
            if (query(q) == null || column < 0 || column >= query(q).kinds.size()) return BAD;
            PlainQuery x = made("order", query(q), query(q).kinds);
            x.a = column;
            x.way = down ? 1 : 0;
            return add(x);
        }

        int once(int q) {
            return query(q) == null ? BAD : add(made("once", query(q), query(q).kinds));
        }

        int cut(int q, int skip, int n) {
            if (query(q) == null || skip < 0 || skip > 1000 || n < 0 || n > 1000) return BAD;
            PlainQuery x = made("cut", query(q), query(q).kinds);
            x.a = skip;
            x.b = n;
            return add(x);
        }

        int also(int q, int r) {
            if (query(q) == null || query(r) == null) return BAD;
            if (!query(q).kinds.equals(query(r).kinds)) return KIND;
            PlainQuery x = made("also", query(q), query(q).kinds);
            x.r = query(r);
            return add(x);
        }

        int columns(int q) {
            return query(q) == null ? BAD : query(q).kinds.size();
        }

        int kind(int q, int column) {
            return query(q) == null || column < 0 || column >= query(q).kinds.size() ? BAD : query(q).kinds.get(column);
        }

        Comparator<Long> inOrder(int kind) {
            if (kind == 1) return (x, y) -> Double.compare(Double.longBitsToDouble(x), Double.longBitsToDouble(y));
            if (kind == 2) return (x, y) -> words.get((int) (long) x).compareTo(words.get((int) (long) y));
            return Comparator.naturalOrder();
        }

        /** YES true, NO false, UNKNOWN null. */
        Boolean ask(PlainTest x, List<Integer> kinds, Long[] row) {
            if (x.form.equals("logic")) {
                Boolean l = ask(x.left, kinds, row);
                if (x.code == 2) return l == null ? null : (Boolean) !l;
                Boolean r = ask(x.right, kinds, row);
                boolean decides = x.code == 1;
                if (l != null && l == decides || r != null && r == decides) return decides;
                return l == null || r == null ? null : (Boolean) !decides;
            }
            Long a = row[x.a];
            if (x.form.equals("compare") && x.code == 3) return a == null;
            Long b = x.form.equals("pair") ? row[x.b] : (Long) x.bits;
            if (a == null || b == null) return null;
            int c = inOrder(kinds.get(x.a)).compare(a, b);
            return x.code == 0 ? c == 0 : x.code == 1 ? c < 0 : c > 0;
        }

        boolean yes(PlainTest x, List<Integer> kinds, Long[] row) {
            return Boolean.TRUE.equals(ask(x, kinds, row));
        }

        static Long[] joined(Long[] l, Long[] r) {
            Long[] both = Arrays.copyOf(l, l.length + r.length);
            System.arraycopy(r, 0, both, l.length, r.length);
            return both;
        }

        static Long[] with(Long[] l, Long last) {
            return joined(l, new Long[] {last});
        }

        /** The rows of each query that is needed, by its number. */
        Map<Integer, List<Long[]>> rowsOf(PlainQuery x) {
            Map<Integer, List<Long[]>> all = new TreeMap<>();
            tell(x, all);
            return all;
        }

        List<Long[]> tell(PlainQuery x, Map<Integer, List<Long[]>> all) {
            if (all.containsKey(x.number)) return all.get(x.number);
            List<Long[]> from = x.q == null ? null : tell(x.q, all);
            List<Long[]> other = x.r == null ? null : tell(x.r, all);
            List<Long[]> out = new ArrayList<>();
            switch (x.form) {
                case "source": out.addAll(t(x.t).copy().records.values()); break;
                case "where":
                    for (Long[] row : from) if (yes(x.test, x.q.kinds, row)) out.add(row);
                    break;
                case "join": tellJoin(x, from, other, out); break;
                case "work":
                    for (Long[] row : from) out.add(with(row, worked(x, row)));
                    break;
                case "group":
                    for (List<Long[]> rows : grouped(x, from).values()) out.add(chosen(x.a, rows.get(0)));
                    break;
                case "collect": {
                    PlainQuery group = groupOf(x);
                    int n = 0;
                    for (List<Long[]> rows : grouped(group, all.get(group.q.number)).values()) {
                        out.add(with(from.get(n++), collected(x, group.q.kinds, rows)));
                    }
                    break;
                }
                case "order": {
                    out.addAll(from);
                    Comparator<Long> c = inOrder(x.kinds.get(x.a));
                    Comparator<Long> way = x.way == 1 ? c.reversed() : c;
                    out.sort((l, r) -> Comparator.nullsLast(way).compare(l[x.a], r[x.a]));
                    break;
                }
                case "once": {
                    Set<List<Long>> seen = new HashSet<>();
                    for (Long[] row : from) if (seen.add(Arrays.asList(row))) out.add(row);
                    break;
                }
                case "cut":
                    for (int i = x.a; i < from.size() && i < x.a + x.b; i++) out.add(from.get(i));
                    break;
                default:
                    out.addAll(from);
                    out.addAll(other);
            }
            if (out.size() > 200) throw new TooMuch();
            all.put(x.number, out);
            return out;
        }

        void tellJoin(PlainQuery x, List<Long[]> from, List<Long[]> other, List<Long[]> out) {
            List<Integer> both = new ArrayList<>(x.q.kinds);
            both.addAll(x.r.kinds);
            for (Long[] l : from) {
                List<Long[]> partners = new ArrayList<>();
                for (Long[] r : other) if (yes(x.test, both, joined(l, r))) partners.add(r);
                if (x.way < 2) for (Long[] r : partners) out.add(joined(l, r));
                if (x.way == 1 && partners.isEmpty()) out.add(joined(l, new Long[x.r.kinds.size()]));
                if (x.way == 2 && !partners.isEmpty() || x.way == 3 && partners.isEmpty()) out.add(l);
            }
        }

        static Long[] chosen(int set, Long[] row) {
            List<Long> out = new ArrayList<>();
            for (int c = 0; c < row.length; c++) if ((set & 1 << c) != 0) out.add(row[c]);
            return out.toArray(new Long[0]);
        }

        static Map<List<Long>, List<Long[]>> grouped(PlainQuery x, List<Long[]> from) {
            Map<List<Long>, List<Long[]>> groups = new LinkedHashMap<>();
            for (Long[] row : from) {
                groups.computeIfAbsent(Arrays.asList(chosen(x.a, row)), k -> new ArrayList<>()).add(row);
            }
            return groups;
        }

        static Long inLong(BigInteger n) {
            return n.bitLength() < 64 ? (Long) n.longValue() : null;
        }

        Long worked(PlainQuery x, Long[] row) {
            if (x.way == 12) {
                Boolean said = ask(x.test, x.q.kinds, row);
                return said == null ? null : (Long) (said ? 1L : 0L);
            }
            Long a = row[x.a];
            if (x.way == 11) return a == null ? 1L : 0L;
            if (x.way == 9) return a == null ? null : (Long) (long) words.get((int) (long) a).length();
            Long b = row[x.b];
            if (x.way == 6) return a == null ? b : a;
            if (a == null || b == null) return null;
            BigInteger m = BigInteger.valueOf(a), n = BigInteger.valueOf(b);
            Comparator<Long> c = inOrder(x.q.kinds.get(x.a));
            switch (x.way) {
                case 0: return inLong(m.add(n));
                case 1: return inLong(m.subtract(n));
                case 2: return inLong(m.multiply(n));
                case 3: return b == 0 ? null : inLong(m.divide(n));
                case 4: return c.compare(a, b) <= 0 ? a : b;
                case 5: return c.compare(a, b) >= 0 ? a : b;
                case 7: return a - b;
                case 8: return m.add(n).abs().compareTo(BigInteger.valueOf(3000000)) > 0 ? null : (Long) (a + b);
                default: return a.equals(b) ? 1L : 0L;
            }
        }

        Long collected(PlainQuery x, List<Integer> kinds, List<Long[]> rows) {
            if (x.way == 0) return (long) rows.size();
            if (x.way == 6) return rows.get(0)[x.a];
            if (x.way == 7) return rows.get(rows.size() - 1)[x.a];
            List<Long> values = new ArrayList<>();
            for (Long[] row : rows) if (row[x.a] != null) values.add(row[x.a]);
            Set<Long> unlike = new HashSet<>(values);
            if (x.way == 1) return (long) values.size();
            if (x.way == 5) return (long) unlike.size();
            if (values.isEmpty()) return null;
            values.sort(inOrder(kinds.get(x.a)));
            BigInteger sum = BigInteger.ZERO, m = BigInteger.valueOf(values.size());
            for (Long v : values) sum = sum.add(BigInteger.valueOf(v));
            switch (x.way) {
                case 2: return inLong(sum);
                case 3: return values.get(0);
                case 4: return values.get(values.size() - 1);
                case 8: return values.get((values.size() - 1) / 2);
                case 9: return sum.subtract(sum.mod(m)).divide(m).longValueExact();
                default:
                    Long best = null;
                    for (Long v : values) {
                        if (best == null || Collections.frequency(values, v) > Collections.frequency(values, best)) best = v;
                    }
                    return best;
            }
        }

        static PlainTest key(PlainTest x, int width) {
            if (x.form.equals("pair") && x.code == 0) {
                return x.a < width && x.b >= width || x.b < width && x.a >= width ? x : null;
            }
            if (!x.form.equals("logic") || x.code != 0) return null;
            return key(x.left, width) != null ? key(x.left, width) : key(x.right, width);
        }

        Set<PlainQuery> needs(PlainQuery x, Set<PlainQuery> all) {
            all.add(x);
            if (x.q != null) needs(x.q, all);
            if (x.r != null) needs(x.r, all);
            return all;
        }

        long looks(PlainQuery x, int plan, Map<Integer, List<Long[]>> rows) {
            long sum = 0;
            for (PlainQuery y : needs(x, new HashSet<>())) {
                boolean byE = rows == null;
                long own = byE ? e(y) : rows.get(y.number).size();
                long q = y.q == null ? 0 : byE ? e(y.q) : rows.get(y.q.number).size();
                long r = y.r == null ? 0 : byE ? e(y.r) : rows.get(y.r.number).size();
                if (y.form.equals("source")) sum += own;
                if (y.form.equals("where")) sum += q;
                if (!y.form.equals("join")) continue;
                PlainTest key = key(y.test, y.q.kinds.size());
                if (plan == 1 || key == null) {
                    sum += q * r;
                    continue;
                }
                long pairs = Math.max(q, r);
                if (!byE) {
                    pairs = 0;
                    for (Long[] i : rows.get(y.q.number)) {
                        for (Long[] j : rows.get(y.r.number)) {
                            Long[] both = joined(i, j);
                            if (both[key.a] != null && both[key.a].equals(both[key.b])) pairs++;
                        }
                    }
                }
                sum += (plan == 2 ? q + r : q + q + r + r) + pairs;
            }
            return sum;
        }

        int e(PlainQuery x) {
            return (int) Math.min(1000000, rawE(x));
        }

        long rawE(PlainQuery x) {
            switch (x.form) {
                case "source": return t(x.t).records.size();
                case "where":
                case "group": return (e(x.q) + 1) / 2;
                case "join": return x.way < 2 ? Math.max(e(x.q), e(x.r)) : (e(x.q) + 1) / 2;
                case "cut": return Math.min(x.b, Math.max(0, e(x.q) - x.a));
                case "also": return e(x.q) + e(x.r);
                default: return e(x.q);
            }
        }

        int run(int q, int plan) {
            if (query(q) == null || plan < 0 || plan > 3) return BAD;
            Map<Integer, List<Long[]>> rows;
            try {
                rows = rowsOf(query(q));
            } catch (TooMuch much) {
                return MUCH;
            }
            int best = plan;
            for (int p = 3; plan == 0 && p >= 1; p--) {
                if (best == 0 || cost(q, p) <= cost(q, best)) best = p;
            }
            latest = rows.get(q);
            latestColumns = query(q).kinds.size();
            latestPlan = best;
            latestLooked = (int) looks(query(q), best, rows);
            return latest.size();
        }

        static long cellOf(List<Long[]> rows, int columns, int row, int column) {
            if (row < 0 || row >= rows.size() || column < 0 || column >= columns) return NO;
            return rows.get(row)[column] == null ? NO : rows.get(row)[column];
        }

        long cell(int row, int column) {
            return cellOf(latest, latestColumns, row, column);
        }

        int isAbsent(int row, int column) {
            if (row < 0 || row >= latest.size() || column < 0 || column >= latestColumns) return BAD;
            return latest.get(row)[column] == null ? 1 : 0;
        }

        int digest() {
            int d = 7;
            for (Long[] row : latest) for (Long v : row) d = 31 * d + (v == null ? 1 : Long.hashCode(v));
            return d;
        }

        int looked(int what) {
            return what == 0 ? latestLooked : what == 1 ? latestPlan : BAD;
        }

        long cost(int q, int plan) {
            return query(q) == null || plan < 1 || plan > 3 ? BAD : looks(query(q), plan, null);
        }

        int expected(int q) {
            return query(q) == null ? BAD : e(query(q));
        }

        int keep(int q) {
            if (query(q) == null) return BAD;
            if (keptOnes.size() == 8) return FULL;
            keptOnes.add(query(q));
            return keptOnes.size() - 1;
        }

        int kept(int k) {
            if (k < 0 || k >= keptOnes.size()) return BAD;
            try {
                return rowsOf(keptOnes.get(k)).get(keptOnes.get(k).number).size();
            } catch (TooMuch much) {
                return MUCH;
            }
        }

        long keptCell(int k, int row, int column) {
            if (kept(k) < 0) return NO;
            PlainQuery x = keptOnes.get(k);
            return cellOf(rowsOf(x).get(x.number), x.kinds.size(), row, column);
        }

        int begin() {
            if (old != null) return STATE;
            old = new ArrayList<>();
            for (PlainTable t : tables) old.add(t.copy());
            had = 0;
            return 1;
        }

        int commit() {
            if (old == null) return STATE;
            old = null;
            return had;
        }

        int rollback() {
            if (old == null) return STATE;
            tables = old;
            old = null;
            return had;
        }

        int transfer(int q, int t) {
            if (query(q) == null || t(t) == null) return BAD;
            List<Integer> kinds = new ArrayList<>();
            for (int k : t(t).kinds) kinds.add(k);
            if (!kinds.equals(query(q).kinds)) return KIND;
            List<Long[]> rows;
            try {
                rows = rowsOf(query(q)).get(q);
            } catch (TooMuch much) {
                return MUCH;
            }
            if (!room(t(t), rows.size())) return FULL;
            for (Long[] row : rows) t(t).records.put(t(t).next++, row.clone());
            had++;
            return rows.size();
        }

        int count(int what) {
            int[] all = {words.size(), tables.size(), tests.size(), queries.size(), keptOnes.size(),
                latest.size(), latestColumns, old == null ? 0 : 1};
            return what < 0 || what > 7 ? BAD : all[what];
        }
    }

    // ---- the drawn runs

    private static long seed;
    private static int wrong = 0;
    private static final Map<String, int[]> seen = new TreeMap<>();

    private static int draw(int n) {
        seed = seed * 6364136223846793005L + 1442695040888963407L;
        return (int) Math.floorMod(seed >>> 33, (long) n);
    }

    /** Mostly a number below n, at times one that is out of the bounds. */
    private static int number(int n) {
        int way = draw(40);
        if (way == 0) return -1 - draw(3);
        if (way == 1) return n + draw(3);
        if (way == 2) return new int[] {Integer.MIN_VALUE, Integer.MAX_VALUE, 1 << 20}[draw(3)];
        return n <= 0 ? 0 : draw(n);
    }

    private static final long[] EDGES = {0, 1, -1, 2, 3, 5, -7, NO, NO + 1, Long.MAX_VALUE, Long.MAX_VALUE - 1,
        3000000, -3000000, 3000001, -3000001, 1L << 62, 1L << 32, 3037000500L, 9218868437227405312L,
        9218868437227405313L, -4503599627370496L, -4503599627370495L, 4607182418800017408L, -4616189618054758400L, 1L << 31};

    private static long bits(int kind, Plain y) {
        if (draw(12) == 0) return EDGES[draw(EDGES.length)];
        switch (kind) {
            case 0: return draw(4) == 0 ? EDGES[draw(EDGES.length)] : draw(7) - 3;
            case 1: return draw(3) == 0 ? EDGES[draw(EDGES.length)] : Double.doubleToLongBits((draw(9) - 4) / 2.0);
            case 2: return number(y.words.size());
            case 3: return draw(6) == 0 ? 2999990 + draw(20) : draw(7) - 3;
            default: return draw(2);
        }
    }

    private static long drawnWord() {
        if (draw(15) == 0) return EDGES[draw(EDGES.length)];
        long l = 0;
        int n = draw(8) == 0 ? 1 + draw(13) : 1 + draw(3);
        for (int i = 0; i < n; i++) l = l * 27 + (draw(60) == 0 ? 0 : n > 3 ? 1 + draw(26) : 1 + draw(3));
        return l;
    }

    private static void same(String call, long got, long want) {
        int[] tally = seen.computeIfAbsent(call.substring(0, call.indexOf('(')), k -> new int[7]);
        tally[want == NO ? 6 : want >= -5 && want < 0 ? (int) -want : 0]++;
        if (got != want) {
            wrong++;
            if (wrong < 40) System.out.println(call + " answered " + got + ", due is " + want);
        }
    }

    private static int some(List<?> list) {
        // The newest ones are taken more often, so that queries of queries become deep.
        int n = list.size();
        return n > 3 && draw(2) == 0 ? n - 1 - draw(3) : number(n);
    }

    private static int columnOf(Plain y, int q) {
        return number(y.query(q) == null ? 3 : y.query(q).kinds.size());
    }

    private static void tablesCall(Told x, Plain y) {
        int t = number(y.tables.size());
        PlainTable at = y.t(t);
        int record = at != null && !at.records.isEmpty() && draw(4) > 0
            ? new ArrayList<>(at.records.keySet()).get(draw(at.records.size())) : number(at == null ? 3 : at.next);
        int c = number(at == null ? 3 : at.kinds.length);
        long bits = bits(at == null || c < 0 || c >= at.kinds.length ? draw(5) : at.kinds[c], y);
        String args = t + ", " + record + ", " + c;
        switch (draw(14)) {
            case 0: {
                long w = drawnWord();
                same("word(" + w + ")", x.word(w), y.word(w));
                break;
            }
            case 1: {
                int n = draw(10) == 0 ? draw(9) - 1 : 1 + draw(4);
                int kinds = draw(8) == 0 ? draw(1 << 30) * (draw(2) * 2 - 1) : 0;
                for (int i = 0; kinds == 0 && i < 6; i++) kinds |= draw(draw(3) == 0 ? 5 : 1) << 3 * i;
                same("table(" + n + ", " + kinds + ")", x.table(n, kinds), y.table(n, kinds));
                break;
            }
            case 2:
            case 3: same("insert(" + t + ")", x.insert(t), y.insert(t)); break;
            case 4:
            case 5:
            case 6:
            case 7: same("put(" + args + ", " + bits + ")", x.put(t, record, c, bits), y.put(t, record, c, bits)); break;
            case 8: same("absent(" + args + ")", x.absent(t, record, c), y.absent(t, record, c)); break;
            case 9: same("delete(" + args + ")", x.delete(t, record), y.delete(t, record)); break;
            case 10: {
                int n = draw(12) == 0 ? draw(64) - 1 : 1 + draw(12);
                int z = draw(1 << 30) * (draw(5) == 0 ? -3 : 1);
                int spread = draw(12) == 0 ? draw(1000003) - 1 : 1 + draw(draw(4) == 0 ? 1000 : 6);
                same("fill(" + t + ", " + n + ", " + z + ", " + spread + ")", x.fill(t, n, z, spread), y.fill(t, n, z, spread));
                break;
            }
            case 11:
            case 12: same("value(" + args + ")", x.value(t, record, c), y.value(t, record, c)); break;
            default: same("records(" + t + ")", x.records(t), y.records(t));
        }
    }

    private static void testsCall(Told x, Plain y) {
        int q = some(y.queries);
        int columns = y.query(q) == null ? 4 : Math.min(12, y.query(q).kinds.size() + draw(4));
        int a = draw(30) == 0 ? draw(30) - 3 : number(columns);
        int b = draw(30) == 0 ? draw(30) - 3 : number(columns);
        switch (draw(8)) {
            case 0:
            case 1: {
                int kind = draw(20) == 0 ? number(5) : y.query(q) != null && a >= 0 && a < y.query(q).kinds.size()
                    ? y.query(q).kinds.get(a) : draw(5);
                int code = number(4);
                long bits = bits(kind, y);
                same("compare(" + code + ", " + a + ", " + kind + ", " + bits + ")",
                    x.compare(code, a, kind, bits), y.compare(code, a, kind, bits));
                break;
            }
            case 2:
            case 3:
            case 4: {
                int code = draw(2) == 0 ? 0 : number(3);
                same("pair(" + code + ", " + a + ", " + b + ")", x.pair(code, a, b), y.pair(code, a, b));
                break;
            }
            case 5:
            case 6: {
                int way = draw(2) == 0 ? 0 : number(3);
                int one = some(y.tests);
                int other = some(y.tests);
                same("logic(" + way + ", " + one + ", " + other + ")", x.logic(way, one, other), y.logic(way, one, other));
                break;
            }
            default: {
                int test = some(y.tests);
                same("fits(" + test + ", " + q + ")", x.fits(test, q), y.fits(test, q));
            }
        }
    }

    private static int fittingTest(Plain y, List<Integer> kinds) {
        List<Integer> all = new ArrayList<>();
        for (int i = 0; i < y.tests.size(); i++) if (y.fit(y.tests.get(i), kinds)) all.add(i);
        return all.isEmpty() || draw(10) == 0 ? some(y.tests) : all.get(draw(all.size()));
    }

    private static void queriesCall(Told x, Plain y) {
        int q = some(y.queries);
        int r = some(y.queries);
        PlainQuery of = y.query(q);
        List<Integer> kinds = new ArrayList<>(of == null ? List.of() : of.kinds);
        switch (draw(15)) {
            case 0: {
                int t = number(y.tables.size());
                same("source(" + t + ")", x.source(t), y.source(t));
                break;
            }
            case 1: {
                int test = fittingTest(y, kinds);
                same("where(" + q + ", " + test + ")", x.where(q, test), y.where(q, test));
                break;
            }
            case 2:
            case 3:
            case 4: {
                if (y.query(r) != null) kinds.addAll(y.query(r).kinds);
                int test = fittingTest(y, kinds);
                int way = number(4);
                same("join(" + q + ", " + r + ", " + test + ", " + way + ")", x.join(q, r, test, way), y.join(q, r, test, way));
                break;
            }
            case 5:
            case 6:
            case 7: {
                int function = number(13);
                int a = function == 12 ? fittingTest(y, kinds) : columnOf(y, q);
                int b = columnOf(y, q);
                same("work(" + q + ", " + function + ", " + a + ", " + b + ")", x.work(q, function, a, b), y.work(q, function, a, b));
                break;
            }
            case 8: {
                int set = draw(15) == 0 ? draw(1 << 30) * (draw(2) * 2 - 1) : draw(1 << Math.min(3, kinds.size()));
                same("group(" + q + ", " + set + ")", x.group(q, set), y.group(q, set));
                break;
            }
            case 9:
            case 10: {
                for (int i = 0; i < 10 && (of == null || Plain.groupOf(of) == null); i++) {
                    q = some(y.queries);
                    of = y.query(q);
                }
                PlainQuery group = of == null ? null : Plain.groupOf(of);
                int c = number(group == null ? 3 : group.q.kinds.size());
                int collector = number(11);
                same("collect(" + q + ", " + collector + ", " + c + ")", x.collect(q, collector, c), y.collect(q, collector, c));
                break;
            }
            case 11: {
                int c = columnOf(y, q);
                boolean down = draw(2) == 0;
                same("order(" + q + ", " + c + ", " + down + ")", x.order(q, c, down), y.order(q, c, down));
                break;
            }
            case 12: same("once(" + q + ")", x.once(q), y.once(q)); break;
            case 13: {
                int skip = draw(15) == 0 ? draw(1004) - 1 : draw(6);
                int n = draw(15) == 0 ? draw(1004) - 1 : draw(40);
                same("cut(" + q + ", " + skip + ", " + n + ")", x.cut(q, skip, n), y.cut(q, skip, n));
                break;
            }
            default: {
                for (int i = 0; i < 6 && (y.query(r) == null || !kinds.equals(y.query(r).kinds)); i++) r = some(y.queries);
                same("also(" + q + ", " + r + ")", x.also(q, r), y.also(q, r));
            }
        }
    }

    private static void runsCall(Told x, Plain y) {
        int q = some(y.queries);
        int row = number(y.latest.size());
        int c = number(y.latestColumns);
        int what = number(2);
        int plan = number(4);
        switch (draw(12)) {
            case 0:
            case 1:
            case 2:
            case 3: {
                same("run(" + q + ", " + plan + ")", x.run(q, plan), y.run(q, plan));
                same("digest() behind a run", x.digest(), y.digest());
                same("looked(0) behind a run", x.looked(0), y.looked(0));
                same("looked(1) behind a run", x.looked(1), y.looked(1));
                break;
            }
            case 4: same("cell(" + row + ", " + c + ")", x.cell(row, c), y.cell(row, c)); break;
            case 5: same("isAbsent(" + row + ", " + c + ")", x.isAbsent(row, c), y.isAbsent(row, c)); break;
            case 6: same("digest()", x.digest(), y.digest()); break;
            case 7: same("looked(" + what + ")", x.looked(what), y.looked(what)); break;
            case 8: same("cost(" + q + ", " + plan + ")", x.cost(q, plan), y.cost(q, plan)); break;
            case 9: same("expected(" + q + ")", x.expected(q), y.expected(q)); break;
            case 10: same("columns(" + q + ")", x.columns(q), y.columns(q)); break;
            default: {
                int column = columnOf(y, q);
                same("kind(" + q + ", " + column + ")", x.kind(q, column), y.kind(q, column));
            }
        }
    }

    private static int fittingTable(Plain y, int q) {
        for (int t = 0; t < y.tables.size() && y.query(q) != null && draw(8) > 0; t++) {
            List<Integer> kinds = new ArrayList<>();
            for (int k : y.t(t).kinds) kinds.add(k);
            if (kinds.equals(y.query(q).kinds) && draw(2) == 0) return t;
        }
        return number(y.tables.size());
    }

    private static void changesCall(Told x, Plain y) {
        int q = some(y.queries);
        int k = number(y.keptOnes.size());
        switch (draw(10)) {
            case 0: same("keep(" + q + ")", x.keep(q), y.keep(q)); break;
            case 1:
            case 2: same("kept(" + k + ")", x.kept(k), y.kept(k)); break;
            case 3: {
                int n = y.kept(k);
                int row = number(n);
                int c = number(n < 0 ? 2 : y.keptOnes.get(k).kinds.size());
                same("keptCell(" + k + ", " + row + ", " + c + ")", x.keptCell(k, row, c), y.keptCell(k, row, c));
                break;
            }
            case 4: same("begin()", x.begin(), y.begin()); break;
            case 5: same("commit()", x.commit(), y.commit()); break;
            case 6: same("rollback()", x.rollback(), y.rollback()); break;
            case 7:
            case 8: {
                for (int i = 0; i < 5 && fittingTable(y, q) < 0; i++) q = some(y.queries);
                int t = fittingTable(y, q);
                same("transfer(" + q + ", " + t + ")", x.transfer(q, t), y.transfer(q, t));
                break;
            }
            default: {
                int what = number(8);
                same("count(" + what + ")", x.count(what), y.count(what));
            }
        }
    }

    private static Plain start(Told x) {
        Plain y = new Plain();
        for (int i = 0; i < 3; i++) {
            int kinds = draw(5) | draw(5) << 3 | draw(5) << 6;
            same("table(" + kinds + ")", x.table(2 + i % 2, kinds), y.table(2 + i % 2, kinds));
            long w = drawnWord();
            same("word(" + w + ")", x.word(w), y.word(w));
            int n = 1 + draw(20);
            int z = draw(1 << 30);
            same("fill(" + n + ", " + z + ")", x.fill(i, n, z, 5), y.fill(i, n, z, 5));
            same("source(" + i + ")", x.source(i), y.source(i));
        }
        return y;
    }

    /** Brings one of the document's limits near. */
    private static void crowd(Told x, Plain y) {
        int way = draw(5);
        for (int i = 0; way == 0 && i < 95 + draw(6); i++) {
            long w = (1 + i % 26) * 27 + 1 + i / 26;
            same("word(" + w + ")", x.word(w), y.word(w));
        }
        for (int i = 0; way == 1 && i < 95 + draw(6); i++) {
            same("pair(0, 0, 0)", x.pair(0, 0, 0), y.pair(0, 0, 0));
        }
        for (int i = 0; way == 2 && i < 35; i++) {
            same("source(" + i % 3 + ")", x.source(i % 3), y.source(i % 3));
        }
        for (int i = 0; way == 3 && i < 3; i++) {
            int n = 60 - y.records(0);
            int first = y.t(0).next;
            same("fill(0, " + n + ")", x.fill(0, n, 7, 4), y.fill(0, n, 7, 4));
            for (int r = first; r < first + 47; r++) same("delete(0)", x.delete(0, r), y.delete(0, r));
        }
        for (int t = 0; way == 4 && t < 3; t++) {
            int n = 60 - y.records(t) - draw(3);
            same("fill(" + t + ", " + n + ")", x.fill(t, n, 77, 4), y.fill(t, n, 77, 4));
        }
    }

    private static Plain play(Told x, int calls) {
        Plain y = start(x);
        if (calls < 160) crowd(x, y);
        int bias = draw(5);
        for (int i = 0; i < calls; i++) {
            int before = wrong;
            int way = draw(3) == 0 ? bias : draw(5);
            if (draw(150) == 0 && i < calls / 2) {
                same("clear()", x.clear(), 1);
                y = draw(4) == 0 ? new Plain() : start(x);
            } else if (way == 0) {
                tablesCall(x, y);
            } else if (way == 1) {
                testsCall(x, y);
            } else if (way == 2) {
                queriesCall(x, y);
            } else if (way == 3) {
                runsCall(x, y);
            } else {
                changesCall(x, y);
            }
            if (wrong != before && wrong < 40) System.out.println("  .. as call " + i);
        }
        return y;
    }

    private static void compareAtTheEnd(Told x, Plain y) {
        for (int t = 0; t < 6; t++) {
            for (int record = 0; y.t(t) != null && record < Math.min(200, y.t(t).next + 2); record++) {
                for (int c = 0; c <= y.t(t).kinds.length; c++) same("value() at the end", x.value(t, record, c), y.value(t, record, c));
            }
        }
        for (int q = 0; q < y.queries.size(); q++) {
            for (int plan = 0; plan < 4; plan++) {
                same("run() at the end", x.run(q, plan), y.run(q, plan));
                same("digest() at the end", x.digest(), y.digest());
                same("looked(0) at the end", x.looked(0), y.looked(0));
                same("looked(1) at the end", x.looked(1), y.looked(1));
            }
        }
        for (int what = -1; what < 9; what++) same("count() at the end", x.count(what), y.count(what));
    }

    public static void main(String[] args) {
        int runs = args.length > 0 ? Integer.parseInt(args[0]) : 1500;
        long start = args.length > 1 ? Long.parseLong(args[1]) : 1;
        for (int i = 0; i < runs && wrong == 0; i++) {
            seed = (start + i) * 7919L;
            Told x = new Told();
            compareAtTheEnd(x, play(x, 60 + draw(440)));
            if (wrong != 0) System.out.println("in the drawn run " + (start + i));
        }
        if (args.length > 2) {
            seen.forEach((call, n) -> System.out.println(call + " " + Arrays.toString(n)));
        }
        System.out.println(wrong == 0 ? "all answers are as due" : wrong + " answers are not as due");
        if (wrong != 0) System.exit(1);
    }
}
