/** A counter of records. What each call promises stands in the project's document, DOC.md. */
public final class RecordCounter {
    public static final int BAD = -1, KIND = -2, STATE = -3, FULL = -4, MUCH = -5;
    public static final long NO = -9223372036854775808L;

    private static final int LONG = 0, REAL = 1, WORD = 2, DAY = 3, TRUTH = 4;
    private static final int LAST_DAY = 3000000;
    private static final int MOST_WORDS = 100, MOST_LETTERS = 12, LETTER_BASE = 27;
    private static final int MOST_TABLES = 6, MOST_TABLE_COLUMNS = 6;
    private static final int MOST_RECORDS = 60, MOST_RECORDS_EVER = 200, MOST_SPREAD = 1000000;
    private static final int MOST_TESTS = 100, MOST_TEST_SIZE = 40, MOST_TEST_COLUMNS = 24;
    private static final int MOST_QUERIES = 40, MOST_COLUMNS = 12, MOST_ROWS = 200, MOST_CUT = 1000;
    private static final int MOST_EXPECTED = 1000000;
    private static final int MOST_KEPT = 8;
    private static final int CHEAPEST = 0, BY_PAIRS = 1, BY_KEYS = 2, BY_MERGE = 3;

    private final Values values = new Values();
    private final Table[] tables = new Table[MOST_TABLES];
    private final Test[] tests = new Test[MOST_TESTS];
    private final Queries queries = new Queries();
    private final Query[] keptQueries = new Query[MOST_KEPT];
    private final Rows latest = new Rows(new int[MOST_COLUMNS]);
    private final Evaluator evaluator = new Evaluator(values);
    private int tableCount;
    private int testCount;
    private int keptCount;
    private int latestLooks;
    private int latestPlan;
    private boolean changeOpen;
    private int changes;
    // Rises with each change of a RECORD, so that ROWS that were told before it are known as old.
    private int version;

    public RecordCounter() {
        version = 1;
        latest.forget();
    }

    // ---- words, tables

    public int word(long letters) {
        return values.numberOf(letters);
    }

    public int table(int n, int kinds) {
        if (n < 1 || n > MOST_TABLE_COLUMNS) {
            return BAD;
        }
        int[] each = new int[n];
        for (int c = 0; c < n; c++) {
            each[c] = (kinds >> (3 * c)) & 7;
            if (each[c] > TRUTH) {
                return BAD;
            }
        }
        if (changeOpen) {
            return STATE;
        }
        if (tableCount >= MOST_TABLES) {
            return FULL;
        }
        tables[tableCount] = new Table(each);
        return tableCount++;
    }

    public int insert(int t) {
        Table to = tableAt(t);
        if (to == null) {
            return BAD;
        }
        if (!to.now.hasRoomFor(1)) {
            return FULL;
        }
        noteChange();
        return to.now.addEmpty();
    }

    public int put(int t, int record, int column, long bits) {
        Table to = tableAt(t);
        if (to == null || !to.now.has(record, column)) {
            return BAD;
        }
        int its = to.kinds[column];
        if (!values.areBits(its, bits)) {
            return BAD;
        }
        to.now.write(record, column, values.settled(its, bits));
        noteChange();
        return 1;
    }

    public int absent(int t, int record, int column) {
        Table to = tableAt(t);
        if (to == null || !to.now.has(record, column)) {
            return BAD;
        }
        to.now.wipe(record, column);
        noteChange();
        return 1;
    }

    public int delete(int t, int record) {
        Table from = tableAt(t);
        if (from == null || !from.now.has(record, 0)) {
            return BAD;
        }
        from.now.drop(record);
        noteChange();
        return from.now.present;
    }

    public int fill(int t, int n, int z, int spread) {
        Table to = tableAt(t);
        if (to == null || n < 1 || n > MOST_RECORDS || spread < 1 || spread > MOST_SPREAD) {
            return BAD;
        }
        if (!to.now.hasRoomFor(n)) {
            return FULL;
        }
        int first = to.now.next;
        int draw = z;
        for (int i = 0; i < n; i++) {
            int record = to.now.addEmpty();
            for (int c = 0; c < to.kinds.length; c++) {
                draw = (draw * 1103515245 + 12345) & 0x7FFFFFFF;
                writeDrawn(to, record, c, draw, spread);
            }
        }
        noteChange();
        return first;
    }

    public long value(int t, int record, int column) {
        Table of = tableAt(t);
        if (of == null || !of.now.has(record, column) || of.now.misses(record, column)) {
            return NO;
        }
        return of.now.bitsOf(record, column);
    }

    public int records(int t) {
        Table of = tableAt(t);
        return of == null ? BAD : of.now.present;
    }

    // ---- tests

    public int compare(int code, int column, int kind, long bits) {
        if (code < 0 || code > Test.IS_MISSING || !isTestColumn(column)) {
            return BAD;
        }
        boolean looks = code != Test.IS_MISSING;
        if (looks && !values.areBits(kind, bits)) {
            return BAD;
        }
        Test made = new Test(Test.COMPARE, code, column, column);
        made.kind = looks ? kind : LONG;
        made.bits = looks ? values.settled(kind, bits) : 0;
        return addTest(made);
    }

    public int pair(int code, int a, int b) {
        if (code < 0 || code > Test.ABOVE || !isTestColumn(a) || !isTestColumn(b)) {
            return BAD;
        }
        return addTest(new Test(Test.PAIR, code, a, b));
    }

    public int logic(int way, int a, int b) {
        Test first = testAt(a);
        Test second = way == Test.NOT ? null : testAt(b);
        if (way < 0 || way > Test.NOT || first == null || (way != Test.NOT && second == null)) {
            return BAD;
        }
        int size = 1 + first.size + (second == null ? 0 : second.size);
        if (size > MOST_TEST_SIZE) {
            return FULL;
        }
        Test made = new Test(Test.LOGIC, way, 0, 0);
        made.first = first;
        made.second = second;
        made.size = size;
        return addTest(made);
    }

    public int fits(int test, int q) {
        Test asked = testAt(test);
        Query of = queries.at(q);
        if (asked == null || of == null) {
            return BAD;
        }
        return Test.suits(asked, of.kinds, 1) ? 1 : 0;
    }

    // ---- queries

    public int source(int t) {
        Table of = tableAt(t);
        if (of == null) {
            return BAD;
        }
        if (queries.areFull()) {
            return FULL;
        }
        Query made = new Query(Query.SOURCE, of.kinds, null);
        made.table = of;
        return queries.add(made);
    }

    public int where(int q, int test) {
        Query from = queries.at(q);
        Test asked = testAt(test);
        if (from == null || asked == null) {
            return BAD;
        }
        if (!Test.suits(asked, from.kinds, 1)) {
            return KIND;
        }
        if (queries.areFull()) {
            return FULL;
        }
        Query made = new Query(Query.WHERE, from.kinds, from);
        made.test = asked;
        return queries.add(made);
    }

    public int join(int q, int r, int test, int way) {
        Query left = queries.at(q);
        Query right = queries.at(r);
        Test asked = testAt(test);
        if (left == null || right == null || asked == null || way < 0 || way > Query.WITHOUT) {
            return BAD;
        }
        int width = left.kinds.length;
        if (width + right.kinds.length > MOST_COLUMNS) {
            return KIND;
        }
        int[] both = joinedKinds(left.kinds, right.kinds);
        if (!Test.suits(asked, both, 1)) {
            return KIND;
        }
        if (queries.areFull()) {
            return FULL;
        }
        Query made = new Query(Query.JOIN, way <= Query.EACH_OR_ABSENT ? both : left.kinds, left);
        made.second = right;
        made.test = asked;
        made.code = way;
        made.keyTest = Test.keyBetween(asked, width, 1);
        return queries.add(made);
    }

    public int work(int q, int function, int a, int b) {
        Query from = queries.at(q);
        if (from == null || function < 0 || function > Worker.TRUTH_OF_TEST) {
            return BAD;
        }
        if (function == Worker.TRUTH_OF_TEST) {
            return addTestWork(from, a);
        }
        boolean oneColumn = function == Worker.LETTERS || function == Worker.IS_MISSING;
        int other = oneColumn ? a : b;
        if (!from.hasColumn(a) || !from.hasColumn(other)) {
            return BAD;
        }
        int told = Worker.kindOf(function, from.kinds[a], from.kinds[other]);
        if (told < 0 || from.kinds.length >= MOST_COLUMNS) {
            return KIND;
        }
        if (queries.areFull()) {
            return FULL;
        }
        Query made = new Query(Query.WORK, extendedKinds(from.kinds, told), from);
        made.code = function;
        made.a = a;
        made.b = other;
        return queries.add(made);
    }

    public int group(int q, int set) {
        Query from = queries.at(q);
        if (from == null || (set >>> from.kinds.length) != 0) {
            return BAD;
        }
        if (queries.areFull()) {
            return FULL;
        }
        int[] each = new int[Integer.bitCount(set)];
        int n = 0;
        for (int c = 0; c < from.kinds.length && n < each.length; c++) {
            if ((set >> c & 1) == 1) {
                each[n++] = from.kinds[c];
            }
        }
        Query made = new Query(Query.GROUP, each, from);
        made.a = set;
        made.groupOf = new int[MOST_ROWS];
        return queries.add(made);
    }

    public int collect(int q, int collector, int column) {
        Query from = queries.at(q);
        if (from == null || collector < 0 || collector > Collector.MOST_OFTEN) {
            return BAD;
        }
        Query grouped = from.grouping();
        Query own = grouped == null ? null : grouped.first;
        if (own == null) {
            return KIND;
        }
        boolean looks = collector != Collector.HOW_MANY_ROWS;
        if (looks && !own.hasColumn(column)) {
            return BAD;
        }
        int told = Collector.kindOf(collector, looks ? own.kinds[column] : LONG);
        if (told < 0 || from.kinds.length >= MOST_COLUMNS) {
            return KIND;
        }
        if (queries.areFull()) {
            return FULL;
        }
        Query made = new Query(Query.COLLECT, extendedKinds(from.kinds, told), from);
        made.code = collector;
        made.a = looks ? column : 0;
        made.grouped = grouped;
        return queries.add(made);
    }

    public int order(int q, int column, boolean down) {
        Query from = queries.at(q);
        if (from == null || !from.hasColumn(column)) {
            return BAD;
        }
        if (queries.areFull()) {
            return FULL;
        }
        Query made = new Query(Query.ORDER, from.kinds, from);
        made.a = column;
        made.code = down ? Query.DOWN : Query.UP;
        return queries.add(made);
    }

    public int once(int q) {
        Query from = queries.at(q);
        if (from == null) {
            return BAD;
        }
        return queries.areFull() ? FULL : queries.add(new Query(Query.ONCE, from.kinds, from));
    }

    public int cut(int q, int skip, int n) {
        Query from = queries.at(q);
        if (from == null || skip < 0 || skip > MOST_CUT || n < 0 || n > MOST_CUT) {
            return BAD;
        }
        if (queries.areFull()) {
            return FULL;
        }
        Query made = new Query(Query.CUT, from.kinds, from);
        made.a = skip;
        made.b = n;
        return queries.add(made);
    }

    public int also(int q, int r) {
        Query from = queries.at(q);
        Query then = queries.at(r);
        if (from == null || then == null) {
            return BAD;
        }
        if (!areSame(from.kinds, then.kinds)) {
            return KIND;
        }
        if (queries.areFull()) {
            return FULL;
        }
        Query made = new Query(Query.ALSO, from.kinds, from);
        made.second = then;
        return queries.add(made);
    }

    public int columns(int q) {
        Query of = queries.at(q);
        return of == null ? BAD : of.kinds.length;
    }

    public int kind(int q, int column) {
        Query of = queries.at(q);
        return of == null || !of.hasColumn(column) ? BAD : of.kinds[column];
    }

    // ---- runs

    public int run(int q, int plan) {
        Query asked = queries.at(q);
        if (asked == null || plan < CHEAPEST || plan > BY_MERGE) {
            return BAD;
        }
        if (!isToldAnew(q)) {
            return MUCH;
        }
        latest.takeOver(asked.rows);
        latestPlan = plan == CHEAPEST ? queries.cheapestPlan(q) : plan;
        latestLooks = (int) queries.looksOf(q, latestPlan, false);
        return latest.size;
    }

    public long cell(int row, int column) {
        return cellOf(latest, row, column);
    }

    public int isAbsent(int row, int column) {
        if (!latest.has(row, column)) {
            return BAD;
        }
        return latest.misses(row, column) ? 1 : 0;
    }

    public int digest() {
        int d = 7;
        for (int row = 0; row < latest.size; row++) {
            for (int c = 0; c < latest.columns; c++) {
                long bits = latest.bitsOf(row, c);
                d = 31 * d + (latest.misses(row, c) ? 1 : (int) (bits ^ (bits >>> 32)));
            }
        }
        return d;
    }

    public int looked(int what) {
        if (what < 0 || what > 1) {
            return BAD;
        }
        return what == 0 ? latestLooks : latestPlan;
    }

    public long cost(int q, int plan) {
        if (queries.at(q) == null || plan < BY_PAIRS || plan > BY_MERGE) {
            return BAD;
        }
        return queries.costOf(q, plan);
    }

    public int expected(int q) {
        Query of = queries.at(q);
        if (of == null) {
            return BAD;
        }
        queries.guessUpTo(q);
        return of.guess;
    }

    // ---- kept results, changes

    public int keep(int q) {
        Query of = queries.at(q);
        if (of == null) {
            return BAD;
        }
        if (keptCount >= MOST_KEPT) {
            return FULL;
        }
        keptQueries[keptCount] = of;
        return keptCount++;
    }

    public int kept(int k) {
        Query of = keptAt(k);
        if (of == null) {
            return BAD;
        }
        return isToldAnew(of.number) ? of.rows.size : MUCH;
    }

    public long keptCell(int k, int row, int column) {
        Query of = keptAt(k);
        if (of == null || !isToldAnew(of.number)) {
            return NO;
        }
        return cellOf(of.rows, row, column);
    }

    public int begin() {
        if (changeOpen) {
            return STATE;
        }
        for (int t = 0; t < tableCount; t++) {
            tables[t].remember();
        }
        changeOpen = true;
        changes = 0;
        return 1;
    }

    public int commit() {
        if (!changeOpen) {
            return STATE;
        }
        changeOpen = false;
        return changes;
    }

    public int rollback() {
        if (!changeOpen) {
            return STATE;
        }
        for (int t = 0; t < tableCount; t++) {
            tables[t].restore();
        }
        changeOpen = false;
        version++;
        return changes;
    }

    public int transfer(int q, int t) {
        Query from = queries.at(q);
        Table to = tableAt(t);
        if (from == null || to == null) {
            return BAD;
        }
        if (!areSame(from.kinds, to.kinds)) {
            return KIND;
        }
        if (!isToldAnew(q)) {
            return MUCH;
        }
        if (!to.now.hasRoomFor(from.rows.size)) {
            return FULL;
        }
        for (int row = 0; row < from.rows.size; row++) {
            to.now.addRow(from.rows, row);
        }
        noteChange();
        return from.rows.size;
    }

    public int count(int what) {
        switch (what) {
            case 0: return values.wordCount;
            case 1: return tableCount;
            case 2: return testCount;
            case 3: return queries.size;
            case 4: return keptCount;
            case 5: return latest.size;
            case 6: return latest.columns;
            case 7: return changeOpen ? 1 : 0;
            default: return BAD;
        }
    }

    public int clear() {
        values.wordCount = 0;
        tableCount = 0;
        testCount = 0;
        queries.size = 0;
        keptCount = 0;
        latest.forget();
        latestLooks = 0;
        latestPlan = 0;
        changeOpen = false;
        changes = 0;
        version++;
        return 1;
    }

    private Table tableAt(int t) {
        return t < 0 || t >= tableCount ? null : tables[t];
    }

    private Test testAt(int test) {
        return test < 0 || test >= testCount ? null : tests[test];
    }

    private Query keptAt(int k) {
        return k < 0 || k >= keptCount ? null : keptQueries[k];
    }

    private void noteChange() {
        version++;
        changes++;
    }

    private void writeDrawn(Table to, int record, int column, int draw, int spread) {
        if (draw >> 27 == 0 || spread < 1) {
            return;
        }
        int d = (draw >> 8) % spread;
        int around = d - spread / 2;
        switch (to.kinds[column]) {
            case REAL:
                to.now.write(record, column, Values.quarterOf(around));
                break;
            case WORD:
                if (values.wordCount > 0) {
                    to.now.write(record, column, d % values.wordCount);
                }
                break;
            case TRUTH:
                to.now.write(record, column, d % 2);
                break;
            default:
                to.now.write(record, column, around);
        }
    }

    private static boolean isTestColumn(int column) {
        return column >= 0 && column < MOST_TEST_COLUMNS;
    }

    private int addTest(Test made) {
        if (testCount >= MOST_TESTS) {
            return FULL;
        }
        tests[testCount] = made;
        return testCount++;
    }

    private int addTestWork(Query from, int test) {
        Test asked = testAt(test);
        if (asked == null) {
            return BAD;
        }
        if (!Test.suits(asked, from.kinds, 1) || from.kinds.length >= MOST_COLUMNS) {
            return KIND;
        }
        if (queries.areFull()) {
            return FULL;
        }
        Query made = new Query(Query.TEST_WORK, extendedKinds(from.kinds, TRUTH), from);
        made.test = asked;
        return queries.add(made);
    }

    private static int[] joinedKinds(int[] one, int[] other) {
        int[] both = new int[one.length + other.length];
        System.arraycopy(one, 0, both, 0, one.length);
        System.arraycopy(other, 0, both, one.length, other.length);
        return both;
    }

    private static int[] extendedKinds(int[] kinds, int last) {
        int[] all = new int[kinds.length + 1];
        System.arraycopy(kinds, 0, all, 0, kinds.length);
        all[kinds.length] = last;
        return all;
    }

    private static boolean areSame(int[] one, int[] other) {
        if (one.length != other.length) {
            return false;
        }
        for (int c = 0; c < one.length; c++) {
            if (one[c] != other[c]) {
                return false;
            }
        }
        return true;
    }

    /** Brings the ROWS of a QUERY up to date; false, if it is MUCH. */
    private boolean isToldAnew(int q) {
        Query asked = queries.at(q);
        if (asked == null) {
            return false;
        }
        queries.markNeeded(q);
        for (int i = 0; i <= q; i++) {
            Query each = queries.at(i);
            if (each != null && each.needed && each.version != version) {
                evaluator.evaluate(each);
                each.version = version;
            }
        }
        return !asked.much;
    }

    private static long cellOf(Rows rows, int row, int column) {
        if (!rows.has(row, column) || rows.misses(row, column)) {
            return NO;
        }
        return rows.bitsOf(row, column);
    }

    /** The KINDS' BITS and their ORDER; the WORDS stand here, for theirs is that of their letters. */
    private static final class Values {
        private static final long INFINITE = 9218868437227405312L, NOT_A_NUMBER = 9221120237041090560L;
        private static final long ALL_BUT_SIGN = 0x7FFFFFFFFFFFFFFFL, FRACTION = 0xFFFFFFFFFFFFFL;

        private final long[] letters = new long[MOST_WORDS];
        private final int[] lengths = new int[MOST_WORDS];
        // The letters with as many empty places behind them that all WORDS are of one length:
        // their ORDER is then that of the numbers.
        private final long[] places = new long[MOST_WORDS];
        private int wordCount;

        int numberOf(long told) {
            int length = lengthOf(told);
            if (length == 0) {
                return BAD;
            }
            for (int w = 0; w < wordCount; w++) {
                if (letters[w] == told) {
                    return w;
                }
            }
            if (wordCount >= MOST_WORDS) {
                return FULL;
            }
            long place = told;
            for (int i = length; i < MOST_LETTERS; i++) {
                place *= LETTER_BASE;
            }
            letters[wordCount] = told;
            lengths[wordCount] = length;
            places[wordCount] = place;
            return wordCount++;
        }

        /** How many letters are told; 0, if it is no WORD. */
        private static int lengthOf(long told) {
            long rest = told;
            int length = 0;
            while (rest > 0 && length <= MOST_LETTERS) {
                if (rest % LETTER_BASE == 0) {
                    return 0;
                }
                rest /= LETTER_BASE;
                length++;
            }
            return length <= MOST_LETTERS ? length : 0;
        }

        int lettersOf(long bits) {
            return bits >= 0 && bits < wordCount ? lengths[(int) bits] : 0;
        }

        boolean areBits(int kind, long bits) {
            switch (kind) {
                case LONG:
                case REAL: return true;
                case WORD: return bits >= 0 && bits < wordCount;
                case DAY: return isDay(bits);
                case TRUTH: return bits == 0 || bits == 1;
                default: return false;
            }
        }

        static boolean isDay(long bits) {
            return bits >= -LAST_DAY && bits <= LAST_DAY;
        }

        long settled(int kind, long bits) {
            return kind == REAL && (bits & ALL_BUT_SIGN) > INFINITE ? NOT_A_NUMBER : bits;
        }

        /** A number that stands among those of its KIND as the VALUE does in their ORDER. */
        long rankOf(int kind, long bits) {
            if (kind == REAL) {
                return bits >= 0 ? bits : bits ^ ALL_BUT_SIGN;
            }
            if (kind == WORD) {
                return bits >= 0 && bits < wordCount ? places[(int) bits] : 0;
            }
            return bits;
        }

        /** The bits of n / 4.0, put together here, since a double does not tell its bits. */
        static long quarterOf(int n) {
            if (n == 0) {
                return 0;
            }
            long size = Math.abs((long) n);
            int top = 0;
            while (top < 31 && size >> (top + 1) != 0) {
                top++;
            }
            long sign = n < 0 ? NO : 0;
            long exponent = 1023 + top - 2;
            return sign | exponent << 52 | size << (52 - top) & FRACTION;
        }
    }

    /** The RECORDS of a TABLE at one time. A VALUE that is ABSENT has its column's bit in missing. */
    private static final class Records {
        private final int columns;
        private final long[] bits;
        private final int[] missing;
        private final boolean[] there;
        private int next;
        private int present;

        Records(int columns) {
            this.columns = columns;
            bits = new long[MOST_RECORDS_EVER * columns];
            missing = new int[MOST_RECORDS_EVER];
            there = new boolean[MOST_RECORDS_EVER];
        }

        boolean hasRoomFor(int n) {
            return present + n <= MOST_RECORDS && next + n <= MOST_RECORDS_EVER;
        }

        boolean isThere(int record) {
            return record >= 0 && record < next && there[record];
        }

        boolean has(int record, int column) {
            return isThere(record) && column >= 0 && column < columns;
        }

        boolean misses(int record, int column) {
            return !has(record, column) || (missing[record] >> column & 1) == 1;
        }

        long bitsOf(int record, int column) {
            return has(record, column) ? bits[record * columns + column] : 0;
        }

        int addEmpty() {
            if (!hasRoomFor(1)) {
                return FULL;
            }
            there[next] = true;
            missing[next] = (1 << columns) - 1;
            present++;
            return next++;
        }

        void addRow(Rows from, int row) {
            int record = addEmpty();
            for (int c = 0; c < columns; c++) {
                if (!from.misses(row, c)) {
                    write(record, c, from.bitsOf(row, c));
                }
            }
        }

        void write(int record, int column, long told) {
            if (has(record, column)) {
                bits[record * columns + column] = told;
                missing[record] &= ~(1 << column);
            }
        }

        void wipe(int record, int column) {
            if (has(record, column)) {
                missing[record] |= 1 << column;
            }
        }

        void drop(int record) {
            if (isThere(record)) {
                there[record] = false;
                present--;
            }
        }

        void takeOver(Records other) {
            if (other.columns != columns) {
                return;
            }
            System.arraycopy(other.bits, 0, bits, 0, bits.length);
            System.arraycopy(other.missing, 0, missing, 0, missing.length);
            System.arraycopy(other.there, 0, there, 0, there.length);
            next = other.next;
            present = other.present;
        }
    }

    private static final class Table {
        private final int[] kinds;
        private final Records now;
        private Records before;

        Table(int[] kinds) {
            this.kinds = kinds;
            now = new Records(kinds.length);
        }

        void remember() {
            if (before == null) {
                before = new Records(kinds.length);
            }
            before.takeOver(now);
        }

        void restore() {
            if (before != null) {
                now.takeOver(before);
            }
        }
    }

    /** ROWS that were told. The bits of an ABSENT VALUE are 0, so that like ROWS have all numbers alike. */
    private static final class Rows {
        private final long[] bits;
        private final int[] missing;
        private int[] kinds;
        private int columns;
        private int size;

        Rows(int[] kinds) {
            this.kinds = kinds;
            columns = kinds.length;
            bits = new long[MOST_ROWS * columns];
            missing = new int[MOST_ROWS];
        }

        void forget() {
            columns = 0;
            size = 0;
        }

        boolean has(int row, int column) {
            return row >= 0 && row < size && column >= 0 && column < columns;
        }

        // These two look at the bounds themselves, for each VALUE that is worked on goes through them.
        boolean misses(int row, int column) {
            return row < 0 || row >= size || column < 0 || column >= columns || (missing[row] >> column & 1) == 1;
        }

        long bitsOf(int row, int column) {
            return row < 0 || row >= size || column < 0 || column >= columns ? 0 : bits[row * columns + column];
        }

        /** One ROW more, all ABSENT; false, if there is no room for it. */
        boolean addEmpty() {
            if (size >= MOST_ROWS) {
                return false;
            }
            for (int c = 0; c < columns; c++) {
                bits[size * columns + c] = 0;
            }
            missing[size] = (1 << columns) - 1;
            size++;
            return true;
        }

        /** One ROW more that begins with the VALUES of another one; false, if there is no room for it. */
        boolean addLike(Rows from, int row) {
            if (!addEmpty()) {
                return false;
            }
            writeFrom(from, row, 0);
            return true;
        }

        /** The VALUES of another ROW become those of the newest one from a column on. */
        void writeFrom(Rows from, int row, int start) {
            int newest = size - 1;
            int width = from.columns;
            if (newest < 0 || row < 0 || row >= from.size || start < 0 || start + width > columns) {
                return;
            }
            System.arraycopy(from.bits, row * width, bits, newest * columns + start, width);
            int others = ~(((1 << width) - 1) << start);
            missing[newest] = missing[newest] & others | from.missing[row] << start;
        }

        /** A VALUE of the newest ROW. */
        void write(int column, long told) {
            int newest = size - 1;
            if (has(newest, column)) {
                bits[newest * columns + column] = told;
                missing[newest] &= ~(1 << column);
            }
        }

        /** The newest ROW goes again, if one ahead of it is like it: that one's number, else its own. */
        int foldNewest() {
            int newest = size - 1;
            for (int elder = 0; elder < newest; elder++) {
                if (areLike(elder, newest)) {
                    size = newest;
                    return elder;
                }
            }
            return newest;
        }

        private boolean areLike(int row, int other) {
            if (missing[row] != missing[other]) {
                return false;
            }
            for (int c = 0; c < columns; c++) {
                if (bits[row * columns + c] != bits[other * columns + c]) {
                    return false;
                }
            }
            return true;
        }

        void takeOver(Rows other) {
            int cells = other.size * other.columns;
            if (cells > bits.length || cells > other.bits.length) {
                return;
            }
            System.arraycopy(other.bits, 0, bits, 0, cells);
            System.arraycopy(other.missing, 0, missing, 0, other.size);
            kinds = other.kinds;
            columns = other.columns;
            size = other.size;
        }
    }

    /** One ROW as a TEST sees it; of a JOIN one of q and one of r behind it. */
    private static final class Sight {
        private final int[] kinds = new int[MOST_COLUMNS];
        private final long[] bits = new long[MOST_COLUMNS];
        private int missing;

        /** A ROW comes into sight from a column on. */
        void place(Rows from, int row, int start) {
            int width = from.columns;
            if (row < 0 || row >= from.size || start < 0 || start + width > MOST_COLUMNS) {
                return;
            }
            System.arraycopy(from.kinds, 0, kinds, start, width);
            System.arraycopy(from.bits, row * width, bits, start, width);
            int others = ~(((1 << width) - 1) << start);
            missing = missing & others | from.missing[row] << start;
        }

        int kindAt(int column) {
            return column >= 0 && column < MOST_COLUMNS ? kinds[column] : LONG;
        }

        long bitsAt(int column) {
            return column >= 0 && column < MOST_COLUMNS ? bits[column] : 0;
        }

        boolean lacks(int column) {
            return column < 0 || column >= MOST_COLUMNS || (missing >> column & 1) == 1;
        }

        boolean isAlikeIn(Test key) {
            return !lacks(key.a) && !lacks(key.b) && bitsAt(key.a) == bitsAt(key.b);
        }
    }

    private static final class Test {
        private static final int COMPARE = 0, PAIR = 1, LOGIC = 2;
        private static final int LIKE = 0, BELOW = 1, ABOVE = 2, IS_MISSING = 3;
        private static final int BOTH = 0, EITHER = 1, NOT = 2;
        // In this order BOTH is the least one of two, EITHER the greatest, NOT the one across.
        private static final int SAYS_NO = 0, SAYS_UNKNOWN = 1, SAYS_YES = 2;

        private final int form;
        private final int code;
        private final int a;
        private final int b;
        private int kind;
        private long bits;
        private Test first;
        private Test second;
        private int size;

        Test(int form, int code, int a, int b) {
            this.form = form;
            this.code = code;
            this.a = a;
            this.b = b;
            size = 1;
        }

        /** Whether it FITS columns of these KINDS. (A NOT has no second part, which hinders nothing.) */
        private static boolean suits(Test test, int[] kinds, int depth) {
            if (test == null) {
                return true;
            }
            if (depth > MOST_TEST_SIZE) {
                return false;
            }
            if (test.form == LOGIC) {
                return suits(test.first, kinds, depth + 1) && suits(test.second, kinds, depth + 1);
            }
            int a = test.a;
            int b = test.b;
            if (a < 0 || a >= kinds.length || b < 0 || b >= kinds.length) {
                return false;
            }
            if (test.form == PAIR) {
                return kinds[a] == kinds[b];
            }
            return test.code == IS_MISSING || kinds[a] == test.kind;
        }

        /** The KEY of a JOIN whose first COLUMNS, so many, are those of q; null, if it is not KEYED. */
        private static Test keyBetween(Test test, int width, int depth) {
            if (test == null || depth > MOST_TEST_SIZE) {
                return null;
            }
            if (test.form == PAIR) {
                return test.code == LIKE && (test.a < width) != (test.b < width) ? test : null;
            }
            if (test.form != LOGIC || test.code != BOTH) {
                return null;
            }
            Test found = keyBetween(test.first, width, depth + 1);
            return found != null ? found : keyBetween(test.second, width, depth + 1);
        }

        private static int judge(Test test, Sight row, Values values, int depth) {
            if (test == null || depth > MOST_TEST_SIZE) {
                return SAYS_UNKNOWN;
            }
            if (test.form != LOGIC) {
                return test.judgeValues(row, values);
            }
            int one = judge(test.first, row, values, depth + 1);
            if (test.code == NOT) {
                return SAYS_YES - one;
            }
            if (one == (test.code == BOTH ? SAYS_NO : SAYS_YES)) {
                return one;
            }
            int other = judge(test.second, row, values, depth + 1);
            return test.code == BOTH ? Math.min(one, other) : Math.max(one, other);
        }

        private int judgeValues(Sight row, Values values) {
            boolean lacking = row.lacks(a);
            if (form == COMPARE && code == IS_MISSING) {
                return lacking ? SAYS_YES : SAYS_NO;
            }
            if (lacking || (form == PAIR && row.lacks(b))) {
                return SAYS_UNKNOWN;
            }
            int its = row.kindAt(a);
            long rank = values.rankOf(its, row.bitsAt(a));
            long other = values.rankOf(its, form == PAIR ? row.bitsAt(b) : bits);
            boolean so = code == LIKE ? rank == other : code == BELOW ? rank < other : rank > other;
            return so ? SAYS_YES : SAYS_NO;
        }
    }

    private static final class Query {
        private static final int SOURCE = 0, WHERE = 1, JOIN = 2, WORK = 3, GROUP = 4, COLLECT = 5;
        private static final int ORDER = 6, ONCE = 7, CUT = 8, ALSO = 9;
        // A WORK of a TEST looks at a whole ROW, unlike those of columns, so it is told apart.
        private static final int TEST_WORK = 10;
        private static final int EACH = 0, EACH_OR_ABSENT = 1, WITH_ONE = 2, WITHOUT = 3;
        private static final int UP = 0, DOWN = 1;

        private final int form;
        private final int[] kinds;
        private final Query first;
        private final Rows rows;
        private Query second;
        private Table table;
        private Test test;
        private Test keyTest;
        private int code;
        private int a;
        private int b;
        private int[] groupOf;
        private Query grouped;
        private int number;
        private boolean needed;
        private int guess;
        private int version;
        private boolean much;
        private int keyPairs;

        Query(int form, int[] kinds, Query first) {
            this.form = form;
            this.kinds = kinds;
            this.first = first;
            rows = new Rows(kinds);
        }

        boolean hasColumn(int column) {
            return column >= 0 && column < kinds.length;
        }

        /** The GROUP that a COLLECT of this QUERY tells of; null, if there is none. */
        Query grouping() {
            return form == GROUP ? this : form == COLLECT ? grouped : null;
        }

        int sizeBy(boolean guessed) {
            return guessed ? guess : rows.size;
        }
    }

    /** The QUERIES by numbers, and what can be told of them without their VALUES. */
    private static final class Queries {
        private final Query[] all = new Query[MOST_QUERIES];
        private int size;

        Query at(int q) {
            return q < 0 || q >= size ? null : all[q];
        }

        boolean areFull() {
            return size >= MOST_QUERIES;
        }

        int add(Query made) {
            if (areFull()) {
                return FULL;
            }
            made.number = size;
            all[size] = made;
            return size++;
        }

        /** Those of which a QUERY is made are elder, so one way down the numbers finds all. */
        void markNeeded(int q) {
            for (int i = 0; i < size; i++) {
                all[i].needed = i == q;
            }
            for (int i = Math.min(q, size - 1); i >= 0; i--) {
                Query each = all[i];
                if (each.needed && each.first != null) {
                    each.first.needed = true;
                }
                if (each.needed && each.second != null) {
                    each.second.needed = true;
                }
            }
        }

        void guessUpTo(int q) {
            for (int i = 0; i <= q && i < size; i++) {
                all[i].guess = Math.min(guessOf(all[i]), MOST_EXPECTED);
            }
        }

        private static int guessOf(Query x) {
            int one = x.first == null ? 0 : x.first.guess;
            int other = x.second == null ? 0 : x.second.guess;
            switch (x.form) {
                case Query.SOURCE: return x.table == null ? 0 : x.table.now.present;
                case Query.WHERE:
                case Query.GROUP: return (one + 1) / 2;
                case Query.JOIN: return x.code <= Query.EACH_OR_ABSENT ? Math.max(one, other) : (one + 1) / 2;
                case Query.CUT: return Math.min(Math.max(one - x.a, 0), x.b);
                case Query.ALSO: return one + other;
                default: return one;
            }
        }

        long costOf(int q, int plan) {
            guessUpTo(q);
            return looksOf(q, plan, true);
        }

        int cheapestPlan(int q) {
            int best = BY_PAIRS;
            for (int plan = BY_KEYS; plan <= BY_MERGE; plan++) {
                if (costOf(q, plan) < costOf(q, best)) {
                    best = plan;
                }
            }
            return best;
        }

        /** At how many a PLAN LOOKS, by the ROWS that were told or by what is expected of them. */
        long looksOf(int q, int plan, boolean guessed) {
            markNeeded(q);
            long looks = 0;
            for (int i = 0; i <= q && i < size; i++) {
                if (all[i].needed) {
                    looks += ownLooks(all[i], plan, guessed);
                }
            }
            return looks;
        }

        private static long ownLooks(Query x, int plan, boolean guessed) {
            if (x.form == Query.SOURCE) {
                return x.sizeBy(guessed);
            }
            if (x.first == null) {
                return 0;
            }
            long one = x.first.sizeBy(guessed);
            if (x.form == Query.WHERE) {
                return one;
            }
            if (x.form != Query.JOIN || x.second == null) {
                return 0;
            }
            long other = x.second.sizeBy(guessed);
            if (plan == BY_PAIRS || x.keyTest == null) {
                return one * other;
            }
            long pairs = guessed ? Math.max(one, other) : x.keyPairs;
            return (plan == BY_KEYS ? one + other : 2 * (one + other)) + pairs;
        }
    }

    /** Tells the ROWS of QUERIES, of which those of their parts were told already. */
    private static final class Evaluator {
        private final Values values;
        private final Sight sight = new Sight();
        private final Worker worker;
        private final Collector collector;
        private final int[] sorted = new int[MOST_ROWS];

        Evaluator(Values values) {
            this.values = values;
            worker = new Worker(values);
            collector = new Collector(values);
        }

        void evaluate(Query x) {
            x.rows.size = 0;
            x.keyPairs = 0;
            x.much = (x.first != null && x.first.much) || (x.second != null && x.second.much);
            if (x.much) {
                return;
            }
            Rows from = x.first == null ? x.rows : x.first.rows;
            Rows other = x.second == null ? x.rows : x.second.rows;
            switch (x.form) {
                case Query.SOURCE: tellSource(x); break;
                case Query.WHERE: tellWhere(x, from); break;
                case Query.JOIN: tellJoin(x, from, other); break;
                case Query.WORK: tellWork(x, from); break;
                case Query.TEST_WORK: tellTestWork(x, from); break;
                case Query.GROUP: tellGroup(x, from); break;
                case Query.COLLECT: tellCollect(x, from); break;
                case Query.ORDER: tellOrder(x, from); break;
                case Query.ONCE: tellOnce(x, from); break;
                case Query.CUT: tellCut(x, from); break;
                default: tellAlso(x, from, other);
            }
        }

        private void tellSource(Query x) {
            if (x.table == null) {
                return;
            }
            Records from = x.table.now;
            for (int record = 0; record < from.next; record++) {
                if (from.isThere(record) && x.rows.addEmpty()) {
                    for (int c = 0; c < from.columns; c++) {
                        if (!from.misses(record, c)) {
                            x.rows.write(c, from.bitsOf(record, c));
                        }
                    }
                }
            }
        }

        private void tellWhere(Query x, Rows from) {
            for (int row = 0; row < from.size; row++) {
                sight.place(from, row, 0);
                if (Test.judge(x.test, sight, values, 1) == Test.SAYS_YES) {
                    x.rows.addLike(from, row);
                }
            }
        }

        private void tellJoin(Query x, Rows from, Rows other) {
            for (int row = 0; row < from.size && !x.much; row++) {
                boolean alone = true;
                sight.place(from, row, 0);
                for (int i = 0; i < other.size && !x.much; i++) {
                    sight.place(other, i, from.columns);
                    // Where the KEY is not LIKE the whole TEST is not YES, so it is not asked.
                    if (x.keyTest != null && !sight.isAlikeIn(x.keyTest)) {
                        continue;
                    }
                    x.keyPairs++;
                    if (Test.judge(x.test, sight, values, 1) != Test.SAYS_YES) {
                        continue;
                    }
                    alone = false;
                    if (x.code <= Query.EACH_OR_ABSENT) {
                        x.much = !x.rows.addLike(from, row);
                        x.rows.writeFrom(other, i, from.columns);
                    }
                }
                boolean comes = x.code == Query.WITH_ONE ? !alone : x.code != Query.EACH && alone;
                if (comes) {
                    x.much = !x.rows.addLike(from, row);
                }
            }
        }

        private void tellWork(Query x, Rows from) {
            for (int row = 0; row < from.size; row++) {
                if (x.rows.addLike(from, row) && worker.tells(x, from, row)) {
                    x.rows.write(from.columns, worker.result);
                }
            }
        }

        private void tellTestWork(Query x, Rows from) {
            for (int row = 0; row < from.size; row++) {
                sight.place(from, row, 0);
                int said = Test.judge(x.test, sight, values, 1);
                if (x.rows.addLike(from, row) && said != Test.SAYS_UNKNOWN) {
                    x.rows.write(from.columns, said == Test.SAYS_YES ? 1 : 0);
                }
            }
        }

        private void tellGroup(Query x, Rows from) {
            if (x.groupOf == null) {
                return;
            }
            for (int row = 0; row < from.size && row < x.groupOf.length; row++) {
                addChosen(x, from, row);
                x.groupOf[row] = x.rows.foldNewest();
            }
        }

        private static void addChosen(Query x, Rows from, int row) {
            if (!x.rows.addEmpty()) {
                return;
            }
            int column = 0;
            for (int c = 0; c < from.columns; c++) {
                if ((x.a >> c & 1) == 1) {
                    if (!from.misses(row, c)) {
                        x.rows.write(column, from.bitsOf(row, c));
                    }
                    column++;
                }
            }
        }

        private void tellCollect(Query x, Rows from) {
            for (int row = 0; row < from.size; row++) {
                if (x.rows.addLike(from, row) && collector.tells(x, row)) {
                    x.rows.write(from.columns, collector.result);
                }
            }
        }

        private void tellOrder(Query x, Rows from) {
            int kind = x.hasColumn(x.a) ? x.kinds[x.a] : LONG;
            for (int row = 0; row < from.size && row < sorted.length; row++) {
                int place = row;
                while (place > 0 && comesAhead(x, kind, from, row, sorted[place - 1])) {
                    sorted[place] = sorted[place - 1];
                    place--;
                }
                sorted[place] = row;
            }
            for (int i = 0; i < from.size && i < sorted.length; i++) {
                x.rows.addLike(from, sorted[i]);
            }
        }

        private boolean comesAhead(Query x, int kind, Rows from, int row, int other) {
            if (from.misses(row, x.a) || from.misses(other, x.a)) {
                return !from.misses(row, x.a);
            }
            long rank = values.rankOf(kind, from.bitsOf(row, x.a));
            long otherRank = values.rankOf(kind, from.bitsOf(other, x.a));
            return x.code == Query.DOWN ? rank > otherRank : rank < otherRank;
        }

        private void tellOnce(Query x, Rows from) {
            for (int row = 0; row < from.size; row++) {
                if (x.rows.addLike(from, row)) {
                    x.rows.foldNewest();
                }
            }
        }

        private void tellCut(Query x, Rows from) {
            for (int row = x.a; row < from.size && row - x.a < x.b; row++) {
                x.rows.addLike(from, row);
            }
        }

        private void tellAlso(Query x, Rows from, Rows then) {
            for (int row = 0; row < from.size; row++) {
                x.rows.addLike(from, row);
            }
            for (int row = 0; row < then.size && !x.much; row++) {
                x.much = !x.rows.addLike(then, row);
            }
        }
    }

    /** The functions of a WORK. */
    private static final class Worker {
        private static final int ADD = 0, SUBTRACT = 1, MULTIPLY = 2, DIVIDE = 3;
        private static final int LESSER = 4, GREATER = 5, FIRST_THERE = 6, DAYS_BETWEEN = 7, DAY_LATER = 8;
        private static final int LETTERS = 9, ARE_LIKE = 10, IS_MISSING = 11, TRUTH_OF_TEST = 12;

        private final Values values;
        private long result;

        Worker(Values values) {
            this.values = values;
        }

        /** The KIND that a function of columns tells; -1, if it is not for these KINDS. */
        static int kindOf(int function, int one, int other) {
            switch (function) {
                case ADD:
                case SUBTRACT:
                case MULTIPLY:
                case DIVIDE: return one == LONG && other == LONG ? LONG : -1;
                case LESSER:
                case GREATER:
                case FIRST_THERE: return one == other ? one : -1;
                case DAYS_BETWEEN: return one == DAY && other == DAY ? LONG : -1;
                case DAY_LATER: return one == DAY && other == LONG ? DAY : -1;
                case LETTERS: return one == WORD ? LONG : -1;
                case ARE_LIKE: return one == other ? TRUTH : -1;
                default: return TRUTH;
            }
        }

        /** Whether the VALUE is there; then it is the result. */
        boolean tells(Query x, Rows from, int row) {
            boolean lacksOne = from.misses(row, x.a);
            boolean lacksOther = from.misses(row, x.b);
            long one = from.bitsOf(row, x.a);
            long other = from.bitsOf(row, x.b);
            if (x.code == IS_MISSING) {
                result = lacksOne ? 1 : 0;
                return true;
            }
            if (x.code == FIRST_THERE) {
                result = lacksOne ? other : one;
                return !lacksOne || !lacksOther;
            }
            if (lacksOne || lacksOther) {
                return false;
            }
            if (x.code <= DIVIDE) {
                return tellsLong(x.code, one, other);
            }
            return tellsOther(x.code, x.hasColumn(x.a) ? x.kinds[x.a] : LONG, one, other);
        }

        private boolean tellsLong(int function, long one, long other) {
            if (function == ADD) {
                result = one + other;
                return ((one ^ result) & (other ^ result)) >= 0;
            }
            if (function == SUBTRACT) {
                result = one - other;
                return ((one ^ other) & (one ^ result)) >= 0;
            }
            if (function == MULTIPLY) {
                result = one * other;
                return one == 0 || (result / one == other && !(one == -1 && other == NO));
            }
            if (other == 0 || (one == NO && other == -1)) {
                return false;
            }
            result = one / other;
            return true;
        }

        private boolean tellsOther(int function, int kind, long one, long other) {
            boolean isBelow = values.rankOf(kind, one) < values.rankOf(kind, other);
            switch (function) {
                case LESSER:
                    result = isBelow ? one : other;
                    return true;
                case GREATER:
                    result = isBelow ? other : one;
                    return true;
                case DAYS_BETWEEN:
                    result = one - other;
                    return true;
                case DAY_LATER:
                    result = one + other;
                    // No DAY lies further from another one; beyond that the sum could wrap around.
                    return other >= -2 * LAST_DAY && other <= 2 * LAST_DAY && Values.isDay(result);
                case LETTERS:
                    result = values.lettersOf(one);
                    return true;
                default:
                    result = one == other ? 1 : 0;
                    return true;
            }
        }
    }

    /** The collectors of a COLLECT. */
    private static final class Collector {
        private static final int HOW_MANY_ROWS = 0, HOW_MANY = 1, SUM = 2, LEAST = 3, GREATEST = 4;
        private static final int HOW_MANY_UNLIKE = 5, OF_FIRST = 6, OF_LAST = 7, MIDDLE = 8;
        private static final int MEAN = 9, MOST_OFTEN = 10;

        private final Values values;
        private final long[] found = new long[MOST_ROWS];
        private int foundCount;
        private int rowCount;
        private int firstRow;
        private int lastRow;
        private long result;

        Collector(Values values) {
            this.values = values;
        }

        /** The KIND that a collector tells of a column; -1, if it is not for this KIND. */
        static int kindOf(int collector, int kind) {
            switch (collector) {
                case HOW_MANY_ROWS:
                case HOW_MANY:
                case HOW_MANY_UNLIKE: return LONG;
                case SUM:
                case MEAN: return kind == LONG ? LONG : -1;
                default: return kind;
            }
        }

        /** Whether the VALUE for a ROW of the GROUP is there; then it is the result. */
        boolean tells(Query x, int group) {
            if (x.grouped == null || x.grouped.first == null || x.grouped.groupOf == null) {
                return false;
            }
            Query own = x.grouped.first;
            find(own.rows, x.grouped.groupOf, group, x.a);
            switch (x.code) {
                case HOW_MANY_ROWS: return gives(rowCount);
                case HOW_MANY: return gives(foundCount);
                case SUM: return foundCount > 0 && tellsSum();
                case OF_FIRST: return tellsCell(own.rows, firstRow, x.a);
                case OF_LAST: return tellsCell(own.rows, lastRow, x.a);
                case MEAN: return foundCount > 0 && gives(meanOfFound());
                default:
                    sortFound(own.hasColumn(x.a) ? own.kinds[x.a] : LONG);
                    return tellsSorted(x.code);
            }
        }

        private boolean gives(long told) {
            result = told;
            return true;
        }

        private void find(Rows own, int[] groupOf, int group, int column) {
            foundCount = 0;
            rowCount = 0;
            firstRow = -1;
            lastRow = -1;
            for (int row = 0; row < own.size && row < groupOf.length; row++) {
                if (groupOf[row] != group) {
                    continue;
                }
                firstRow = rowCount == 0 ? row : firstRow;
                lastRow = row;
                rowCount++;
                if (!own.misses(row, column) && foundCount < found.length) {
                    found[foundCount++] = own.bitsOf(row, column);
                }
            }
        }

        private boolean tellsCell(Rows own, int row, int column) {
            result = own.bitsOf(row, column);
            return !own.misses(row, column);
        }

        /** The halves are summed apart, so that a sum that comes back into a long is not lost. */
        private boolean tellsSum() {
            long high = 0;
            long low = 0;
            for (int i = 0; i < foundCount; i++) {
                high += found[i] >> 32;
                low += found[i] & 0xFFFFFFFFL;
            }
            high += low >> 32;
            result = high << 32 | low & 0xFFFFFFFFL;
            return high == (int) high;
        }

        /** Each one is divided alone, since their sum may be beyond a long where the mean is not. */
        private long meanOfFound() {
            if (foundCount < 1) {
                return 0;
            }
            long mean = 0;
            long rest = 0;
            for (int i = 0; i < foundCount; i++) {
                mean += Math.floorDiv(found[i], (long) foundCount);
                rest += Math.floorMod(found[i], (long) foundCount);
            }
            return mean + rest / foundCount;
        }

        private boolean tellsSorted(int collector) {
            if (collector == HOW_MANY_UNLIKE) {
                return gives(unlikeFound());
            }
            if (foundCount < 1) {
                return false;
            }
            switch (collector) {
                case LEAST: return gives(found[0]);
                case GREATEST: return gives(found[foundCount - 1]);
                case MIDDLE: return gives(found[(foundCount - 1) / 2]);
                default: return gives(mostOftenFound());
            }
        }

        private void sortFound(int kind) {
            for (int i = 1; i < foundCount; i++) {
                long bits = found[i];
                long rank = values.rankOf(kind, bits);
                int place = i;
                while (place > 0 && values.rankOf(kind, found[place - 1]) > rank) {
                    found[place] = found[place - 1];
                    place--;
                }
                found[place] = bits;
            }
        }

        private int unlikeFound() {
            int unlike = 0;
            for (int i = 0; i < foundCount; i++) {
                if (i == 0 || found[i] != found[i - 1]) {
                    unlike++;
                }
            }
            return unlike;
        }

        private long mostOftenFound() {
            long best = 0;
            int bestTimes = 0;
            int times = 0;
            for (int i = 0; i < foundCount; i++) {
                times = i > 0 && found[i] == found[i - 1] ? times + 1 : 1;
                if (times > bestTimes) {
                    bestTimes = times;
                    best = found[i];
                }
            }
            return best;
        }
    }
}
