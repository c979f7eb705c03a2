/** Each sentence about QUERIES that names a boundary: the Terms' part 3, promises 15 to 26. */
public final class QueriesEdgesTest extends Checks {
    public static void main(String[] args) throws IllegalAccessException {
        playAll(QueriesEdgesTest.class);
    }

    // ---- Terms: how many, of which, COLUMNS

    private static final String[] FORMS = {"source", "where", "join", "work", "work of a TEST", "group", "collect", "order",
        "once", "cut", "also"};

    /** A QUERY of each form; QUERY 0 is a SOURCE of one LONG, QUERY 1 a GROUP of it, TEST 0 a PAIR of its column. */
    private static int make(String form) {
        switch (form) {
            case "source": return x.source(0);
            case "where": return x.where(0, 0);
            case "join": return x.join(0, 0, 0, 0);
            case "work": return x.work(0, 0, 0, 0);
            case "work of a TEST": return x.work(0, 12, 0, 0);
            case "group": return x.group(0, 1);
            case "collect": return x.collect(1, 0, 0);
            case "order": return x.order(0, 0, true);
            case "once": return x.once(0);
            case "cut": return x.cut(0, 0, 1);
            default: return x.also(0, 0);
        }
    }

    private static void startForms() {
        sourceOf("5", LONG);
        x.group(0, 1);
        x.pair(0, 0, 0);
    }

    static void queriesAreFortyAtMost() {
        for (String form : FORMS) {
            sentence(0, "QUERIES (40 at most)");
            startForms();
            while (x.count(3) < 39) {
                x.source(0);
            }
            due("the 40th, a " + form, make(form), 39);
            due("the 41st, a " + form, make(form), FULL);
            due("how many", x.count(3), 40);
            due("the 40th runs", x.run(39, 0), form.equals("also") ? 2 : 1);
            due("the 41st does not", x.run(40, 0), BAD);
        }
    }

    static void queriesAreMadeOfElderOnes() {
        sentence(0, "QUERIES (40 at most) are made of elder ones, and never change.");
        startForms();
        int own = x.count(3);
        due("where", x.where(own, 0), BAD);
        due("join, q", x.join(own, 0, 0, 0), BAD);
        due("join, r", x.join(0, own, 0, 0), BAD);
        due("work", x.work(own, 11, 0, 0), BAD);
        due("group", x.group(own, 0), BAD);
        due("collect", x.collect(own, 0, 0), BAD);
        due("order", x.order(own, 0, true), BAD);
        due("once", x.once(own), BAD);
        due("cut", x.cut(own, 0, 1), BAD);
        due("also, q", x.also(own, 0), BAD);
        due("also, r", x.also(0, own), BAD);
        due("how many", x.count(3), own);
    }

    static void rowsAreOfWhatTheTablesHaveByThen() {
        sentence(0, "ROWS in order, of what the TABLES have by then");
        startForms();
        int last = x.order(0, 0, true);
        dueRun("one RECORD", last, "5");
        x.delete(0, 0);
        dueRun("none", last, "");
        load(0, "6|7|-");
        dueRun("others", last, "7|6|-");
    }

    static void noColumnsAtAll() {
        sentence(0, "One has COLUMNS (0 .. 12, with KINDS)");
        int q = sourceOf("5|6|5", LONG);
        int none = x.group(q, 0);
        due("columns", x.columns(none), 0);
        due("kind", x.kind(none, 0), BAD);
        dueRun("a ROW without COLUMNS", none, "()");
        due("its COLUMNS", x.count(6), 0);
        dueRun("once", x.once(none), "()");
        dueRun("cut", x.cut(none, 0, 5), "()");
        dueRun("cut behind it", x.cut(none, 1, 5), "");
        dueRun("two of them", x.also(none, none), "()|()");
        dueRun("two of them once", x.once(x.also(none, none)), "()");
        dueRun("a GROUP of it", x.group(x.also(none, none), 0), "()");
        dueRun("how many ROWS", x.collect(x.group(x.also(none, none), 0), 0, 7), "2");
        due("a column of it", x.collect(x.group(none, 0), 1, 0), BAD);
        due("ORDER by none", x.order(none, 0, false), BAD);
        due("WORK", x.work(none, 11, 0, 0), BAD);
        due("another KIND", x.also(none, q), KIND);
        due("WHERE", x.where(none, x.compare(3, 0, 0, 0)), KIND);
        dueRun("a JOIN behind it", x.join(none, q, x.compare(0, 0, LONG, 5), 0), "5|5");
        dueRun("a JOIN ahead of it", x.join(q, none, x.compare(0, 0, LONG, 5), 1), "5|6|5");
        dueRun("a JOIN with one", x.join(none, q, x.compare(0, 0, LONG, 5), 2), "()");
        dueRun("a JOIN without any", x.join(none, q, x.compare(0, 0, LONG, 5), 3), "");
    }

    private static int twelve() {
        int six = sourceOf("1,2,3,4,5,6", LONG, LONG, LONG, LONG, LONG, LONG);
        return x.join(six, six, x.pair(0, 0, 6), 0);
    }

    static void twelveColumns() {
        sentence(0, "One has COLUMNS (0 .. 12, with KINDS)");
        int q = twelve();
        due("columns", x.columns(q), 12);
        due("the last KIND", x.kind(q, 11), LONG);
        due("a 13th", x.kind(q, 12), BAD);
        String row = "1,2,3,4,5,6,1,2,3,4,5,6";
        dueRun("JOIN", q, row);
        due("its COLUMNS", x.count(6), 12);
        due("the last cell", x.cell(0, 11), 6);
        due("a cell behind it", x.cell(0, 12), NO);
        dueRun("WHERE by the last one", x.where(q, x.compare(0, 11, LONG, 6)), row);
        dueRun("ORDER by the last one", x.order(q, 11, true), row);
        dueRun("GROUP by all", x.group(q, 4095), row);
        dueRun("GROUP by the last one", x.group(q, 2048), "6");
        dueRun("a sum of the last one", x.collect(x.group(q, 1), 2, 11), "1,6");
        dueRun("ONCE, CUT, ALSO", x.once(x.also(x.cut(q, 0, 1), q)), row);
    }

    // ---- Terms: SOURCE, WHERE

    static void sourceOfATableWithoutRecords() {
        sentence(0, "SOURCE: all RECORDS of a TABLE that are there, by numbers.");
        int q = sourceOf("", LONG, DAY);
        dueRun("no RECORDS", q, "");
        due("its COLUMNS", x.count(6), 2);
        x.insert(0);
        dueRun("an empty RECORD", q, "-,-");
        x.delete(0, 0);
        dueRun("none again", q, "");
    }

    static void sourceOfSixtyRecords() {
        sentence(0, "SOURCE: all RECORDS of a TABLE that are there, by numbers.");
        x.table(1, 0);
        x.fill(0, 60, 1, 1);
        deleteAll(0, 0, 60);
        x.fill(0, 60, 1, 1);
        x.fill(0, 1, 1, 1);
        int q = x.source(0);
        due("60", x.run(q, 1), 60);
        for (int i = 0; i < 60; i++) {
            x.put(0, 60 + i, 0, 1000 - i);
        }
        x.delete(0, 60);
        due("59", x.run(q, 1), 59);
        due("the first one", x.cell(0, 0), 999);
        due("the last one", x.cell(58, 0), 941);
        due("one behind it", x.isAbsent(59, 0), BAD);
    }

    static void whereIsForYesAlone() {
        sentence(0, "WHERE: the ROWS of q for which a TEST is YES.");
        int q = sourceOf("1|-|2", LONG);
        int one = x.compare(0, 0, LONG, 1);
        dueRun("YES", x.where(q, one), "1");
        dueRun("NO becomes YES, UNKNOWN does not", x.where(q, x.logic(2, one, 0)), "2");
        dueRun("of none", x.where(x.cut(q, 0, 0), one), "");
        dueRun("for none", x.where(q, x.compare(0, 0, LONG, 3)), "");
        dueRun("for all", x.where(q, x.logic(1, x.compare(3, 0, 0, 0), x.compare(2, 0, LONG, 0))), "1|-|2");
    }

    // ---- Terms: JOIN

    static void joinInOrder() {
        sentence(0, "by way 0 each ROW of q, in order, with each ROW of r, in order, for which it is YES");
        int q = sourceOf("2,10|1,11|2,12|-,13|3,14", LONG, LONG);
        int r = sourceOf("2,20|-,21|1,22|2,23", LONG, LONG);
        dueRun("way 0", x.join(q, r, x.pair(0, 0, 2), 0), "2,10,2,20|2,10,2,23|1,11,1,22|2,12,2,20|2,12,2,23");
        dueRun("the PAIR the other way", x.join(q, r, x.pair(0, 2, 0), 0), "2,10,2,20|2,10,2,23|1,11,1,22|2,12,2,20|2,12,2,23");
    }

    static void joinKeepsAbsentOnes() {
        sentence(0, "by way 0 each ROW of q, in order, with each ROW of r, in order, for which it is YES");
        int q = sourceOf("1,-,-|2,0,-|3,-,0", LONG, LONG, LONG);
        int r = sourceOf("-,1,0|0,2,-|-,3,-|0,1,0", LONG, LONG, LONG);
        String both = "1,-,-,-,1,0|1,-,-,0,1,0|2,0,-,0,2,-|3,-,0,-,3,-";
        for (int way = 0; way <= 1; way++) {
            dueRun("KEYED by " + way, x.join(q, r, x.pair(0, 0, 4), way), both);
            int not = x.logic(1, x.pair(0, 0, 4), x.pair(0, 4, 0));
            dueRun("not KEYED by " + way, x.join(q, r, not, way), both);
        }
        int six = x.join(q, r, x.pair(0, 0, 4), 0);
        dueRun("ABSENT in the last column", x.where(six, x.compare(3, 5, 0, 0)), "2,0,-,0,2,-|3,-,0,-,3,-");
        dueRun("ABSENT in the first column of r", x.where(six, x.compare(3, 3, 0, 0)), "1,-,-,-,1,0|3,-,0,-,3,-");
    }

    static void joinByWayOneComesOnce() {
        sentence(0, "1 likewise, but a ROW of q without any comes once, r's VALUES ABSENT");
        int q = sourceOf("2,10|1,11|-,13|3,14", LONG, LONG);
        int r = sourceOf("2,20|-,21|2,23", LONG, LONG);
        dueRun("way 1", x.join(q, r, x.pair(0, 0, 2), 1), "2,10,2,20|2,10,2,23|1,11,-,-|-,13,-,-|3,14,-,-");
        dueRun("by UNKNOWN", x.join(q, r, x.logic(2, x.pair(0, 0, 2), 0), 1),
            "2,10,-,-|1,11,2,20|1,11,2,23|-,13,-,-|3,14,2,20|3,14,2,23");
    }

    static void joinByWayTwoHasOneAtLeast() {
        sentence(0, "2 each ROW of q with one at least");
        int q = sourceOf("2,10|1,11|-,13|3,14|2,15", LONG, LONG);
        int r = sourceOf("2,20|-,21|2,23|3,24", LONG, LONG);
        dueRun("with one, with two", x.join(q, r, x.pair(0, 0, 2), 2), "2,10|3,14|2,15");
        dueRun("not KEYED", x.join(q, r, x.pair(1, 0, 2), 2), "2,10|1,11|2,15");
    }

    static void joinByWayThreeHasNone() {
        sentence(0, "3 each ROW of q without any");
        int q = sourceOf("2,10|1,11|-,13|3,14|2,15", LONG, LONG);
        int r = sourceOf("2,20|-,21|2,23|3,24", LONG, LONG);
        dueRun("none is LIKE, or UNKNOWN", x.join(q, r, x.pair(0, 0, 2), 3), "1,11|-,13");
        dueRun("not KEYED", x.join(q, r, x.pair(1, 0, 2), 3), "-,13|3,14");
    }

    static void joinOfNone() {
        sentence(0, "JOIN of q and r by a TEST of q's COLUMNS and r's behind them");
        int q = sourceOf("1|-", LONG);
        int none = x.cut(q, 0, 0);
        int any = x.logic(1, x.compare(3, 0, 0, 0), x.compare(2, 0, LONG, 0));
        int[] tests = {any, x.pair(0, 0, 1)};
        String[] ofNone = {"", "1,-|-,-", "", "1|-"};
        for (int test : tests) {
            for (int way = 0; way <= 3; way++) {
                dueRun("q has none, by " + way, x.join(none, q, test, way), "");
                dueRun("r has none, by " + way, x.join(q, none, test, way), ofNone[way]);
                dueRun("both have none, by " + way, x.join(none, none, test, way), "");
            }
        }
    }

    static void joinColumns() {
        sentence(0, "COLUMNS: of q, and by 0, 1 those of r behind them.");
        int q = sourceOf("", LONG, DAY);
        int r = sourceOf("", REAL, TRUTH, LONG);
        int test = x.pair(0, 0, 4);
        for (int way = 0; way <= 3; way++) {
            int j = x.join(q, r, test, way);
            due("columns by " + way, x.columns(j), way < 2 ? 5 : 2);
            int[] kinds = {LONG, DAY, REAL, TRUTH, LONG};
            for (int c = 0; c < 6; c++) {
                due("kind of " + c + " by " + way, x.kind(j, c), c < x.columns(j) ? kinds[c] : BAD);
            }
        }
    }

    static void joinByWays() {
        sentence(17, "A JOIN by way 0 .. 3: its number. BAD; KIND: the TEST does not FIT");
        int q = sourceOf("", LONG);
        int test = x.pair(0, 0, 1);
        for (int way : new int[] {-1, 4, MIN_INT, MAX_INT}) {
            due("way " + way, x.join(q, q, test, way), BAD);
        }
        for (int n : new int[] {-1, 1, 40, MIN_INT, MAX_INT}) {
            due("q " + n, x.join(n, q, test, 0), BAD);
            due("r " + n, x.join(q, n, test, 0), BAD);
            due("TEST " + n, x.join(q, q, n, 0), BAD);
        }
        int outside = x.pair(0, 0, 2);
        int ofDay = x.compare(0, 1, DAY, 0);
        for (int way = 0; way <= 3; way++) {
            due("a column behind r's by " + way, x.join(q, q, outside, way), KIND);
            due("a DAY by " + way, x.join(q, q, ofDay, way), KIND);
        }
        for (int way = 0; way <= 3; way++) {
            due("way " + way, x.join(q, q, test, way), 1 + way);
        }
    }

    static void joinOfThirteenColumns() {
        sentence(17, "more than 12 COLUMNS (of both together, by each way)");
        int six = sourceOf("1,2,3,4,5,6", LONG, LONG, LONG, LONG, LONG, LONG);
        int one = x.group(six, 1);
        int like = x.pair(0, 0, 1);
        int seven = x.join(one, six, like, 0);
        due("seven", x.columns(seven), 7);
        int twelve = x.join(six, six, like, 0);
        int none = x.group(six, 0);
        for (int way = 0; way <= 3; way++) {
            due("7 and 6 by " + way, x.join(seven, six, like, way), KIND);
            due("6 and 7 by " + way, x.join(six, seven, like, way), KIND);
            due("12 and 1 by " + way, x.join(twelve, one, like, way), KIND);
            due("1 and 12 by " + way, x.join(one, twelve, like, way), KIND);
            due("12 and 0 by " + way, x.join(twelve, none, like, way), 5 + 3 * way);
            due("0 and 12 by " + way, x.join(none, twelve, like, way), 6 + 3 * way);
            due("6 and 6 by " + way, x.join(six, six, like, way), 7 + 3 * way);
            due("its COLUMNS", x.columns(7 + 3 * way), way < 2 ? 12 : 6);
        }
    }

    // ---- Terms: WORK

    /** A function of two columns: each ROW's VALUES and what is worked, "a,b,told". */
    private static void dueWork(int function, int kindOfA, int kindOfB, int told, String... rows) {
        StringBuilder given = new StringBuilder();
        for (String row : rows) {
            given.append(given.length() > 0 ? "|" : "").append(row, 0, row.lastIndexOf(','));
        }
        int q = sourceOf(given.toString(), kindOfA, kindOfB);
        int w = x.work(q, function, 0, 1);
        due("its KIND", x.kind(w, 2), told);
        due("its COLUMNS", x.columns(w), 3);
        dueRun("function " + function, w, String.join("|", rows));
    }

    static void workZero() {
        sentence(0, "Of LONGS, told as a LONG: 0 a + b .. ABSENT beyond a long");
        dueWork(0, LONG, LONG, LONG, "1,2,3", MAX + ",0," + MAX, MAX + ",1,-", "1," + MAX + ",-", MAX - 1 + ",1," + MAX,
            MAX + "," + MAX + ",-", NO + ",0," + NO, NO + ",-1,-", "-1," + NO + ",-", NO + 1 + ",-1," + NO, NO + "," + NO + ",-",
            MAX + "," + NO + ",-1", NO + "," + MAX + ",-1", "-,1,-", "1,-,-", "-,-,-");
    }

    static void workOne() {
        sentence(0, "Of LONGS, told as a LONG: .. 1 a - b .. ABSENT beyond a long");
        dueWork(1, LONG, LONG, LONG, "1,2,-1", NO + ",0," + NO, NO + ",1,-", NO + 1 + ",1," + NO, MAX + ",-1,-",
            MAX - 1 + ",-1," + MAX, "0," + NO + ",-", "-1," + NO + "," + MAX, "-2," + NO + "," + (MAX - 1), "0," + MAX + "," + (NO + 1),
            "-1," + MAX + "," + NO, "-2," + MAX + ",-", NO + "," + NO + ",0", MAX + "," + NO + ",-", NO + "," + MAX + ",-",
            "-,1,-", "1,-,-", "-,-,-");
    }

    static void workTwo() {
        sentence(0, "Of LONGS, told as a LONG: .. 2 a b .. ABSENT beyond a long");
        long root = 3037000499L;
        dueWork(2, LONG, LONG, LONG, "3,-4,-12", "0," + NO + ",0", NO + ",0,0", NO + ",1," + NO, "1," + NO + "," + NO, NO + ",-1,-",
            "-1," + NO + ",-", MAX + ",-1," + (NO + 1), "-1," + MAX + "," + (NO + 1), root + "," + root + "," + root * root,
            root + 1 + "," + (root + 1) + ",-", (1L << 32) + "," + (1L << 31) + ",-", (1L << 32) + "," + -(1L << 31) + "," + NO,
            -(1L << 31) + "," + (1L << 32) + "," + NO, (1L << 32) + "," + (1L << 32) + ",-", MAX + "," + MAX + ",-",
            MAX + ",2,-", "2," + (1L << 62) + ",-", "-2," + (1L << 62) + "," + NO, NO + "," + NO + ",-", "-,0,-", "0,-,-", "-,-,-");
    }

    static void workThree() {
        sentence(0, "Of LONGS, told as a LONG: .. 3 a / b (cut toward 0); ABSENT beyond a long, or by 0.");
        dueWork(3, LONG, LONG, LONG, "7,2,3", "-7,2,-3", "7,-2,-3", "-7,-2,3", "1,2,0", "-1,2,0", "5,0,-", "0,0,-", NO + ",0,-",
            NO + ",-1,-", NO + ",1," + NO, NO + 1 + ",-1," + MAX, MAX + ",-1," + (NO + 1), "-1," + NO + ",0", NO + "," + NO + ",1",
            NO + ",2," + (NO / 2), "0,-1,0", "-,1,-", "1,-,-", "-,0,-", "-,-,-");
    }

    static void workFour() {
        sentence(0, "Of one KIND, told as it: 4 the lesser in ORDER");
        dueWork(4, LONG, LONG, LONG, "1,2,1", "2,1,1", "2,2,2", NO + "," + MAX + "," + NO, MAX + "," + NO + "," + NO, "-,1,-", "1,-,-");
        dueWork(4, DAY, DAY, DAY, "-3000000,3000000,-3000000", "5,-,-");
        dueWork(4, TRUTH, TRUTH, TRUTH, "0,1,0", "1,0,0", "1,1,1", "-,0,-");
        dueWork(4, REAL, REAL, REAL, "0," + NO + "," + NO, NO + ",0," + NO, NAN + "," + real(1) + "," + real(1),
            real(-2) + "," + real(-1) + "," + real(-2), NAN + "," + NAN + "," + NAN, NAN + ",-,-");
        x.word(letters("b"));
        x.word(letters("ab"));
        x.word(letters("a"));
        dueWork(4, WORD, WORD, WORD, "0,1,1", "1,2,2", "2,1,2", "2,2,2", "-,2,-");
    }

    static void workFive() {
        sentence(0, "Of one KIND, told as it: .. 5 the greater");
        dueWork(5, LONG, LONG, LONG, "1,2,2", "2,1,2", "2,2,2", NO + "," + MAX + "," + MAX, MAX + "," + NO + "," + MAX, "-,1,-", "1,-,-");
        dueWork(5, DAY, DAY, DAY, "-3000000,3000000,3000000", "5,-,-");
        dueWork(5, TRUTH, TRUTH, TRUTH, "0,1,1", "1,0,1", "0,0,0", "-,0,-");
        dueWork(5, REAL, REAL, REAL, "0," + NO + ",0", NO + ",0,0", NAN + "," + real(1) + "," + NAN,
            real(-2) + "," + real(-1) + "," + real(-1), real(1) + ",-,-");
        x.word(letters("b"));
        x.word(letters("ab"));
        x.word(letters("a"));
        dueWork(5, WORD, WORD, WORD, "0,1,0", "1,2,1", "2,1,1", "2,2,2", "-,2,-");
    }

    static void workSix() {
        sentence(0, "Of one KIND, told as it: .. 6 a, or b, if a is ABSENT.");
        dueWork(6, LONG, LONG, LONG, "1,2,1", "1,-,1", "-,2,2", "-,-,-", "0,5,0", "-,0,0", NO + ",1," + NO);
        dueWork(6, TRUTH, TRUTH, TRUTH, "0,1,0", "-,1,1", "1,-,1");
        dueWork(6, REAL, REAL, REAL, NAN + "," + real(1) + "," + NAN, "-," + NAN + "," + NAN, NO + ",0," + NO);
    }

    static void workSeven() {
        sentence(0, "7 of DAYS: a - b, a LONG.");
        dueWork(7, DAY, DAY, LONG, "3000000,-3000000,6000000", "-3000000,3000000,-6000000", "5,5,0", "5,7,-2", "-,5,-", "5,-,-", "-,-,-");
    }

    static void workEight() {
        sentence(0, "8 of a DAY and a LONG: the DAY a + b; ABSENT, if there is none such.");
        dueWork(8, DAY, LONG, DAY, "5,-7,-2", "3000000,0,3000000", "2999999,1,3000000", "3000000,1,-", "2999999,2,-",
            "-3000000,0,-3000000", "-2999999,-1,-3000000", "-3000000,-1,-", "3000000,-6000000,-3000000", "3000000,-6000001,-",
            "-3000000,6000000,3000000", "-3000000,6000001,-", "0," + MAX + ",-", "0," + NO + ",-", "1," + MAX + ",-", "3000000," + MAX + ",-",
            "-1," + NO + ",-", "-3000000," + NO + ",-", "0," + (1L << 32) + ",-", "-,0,-", "5,-,-", "-,-,-");
    }

    static void workNine() {
        sentence(0, "9 of a WORD: how many letters, a LONG (b is not looked at).");
        x.word(letters("z"));
        x.word(letters("zzzzzzzzzzzz"));
        x.word(letters("aaaaaaaaaaaa"));
        x.word(letters("ab"));
        int q = sourceOf("0|1|2|3|-", WORD);
        for (int b : new int[] {0, 1, -1, 12, MIN_INT, MAX_INT}) {
            int w = x.work(q, 9, 0, b);
            due("its KIND", x.kind(w, 1), LONG);
            dueRun("letters", w, "0,1|1,12|2,12|3,2|-,-");
        }
    }

    static void workTen() {
        sentence(0, "10 of one KIND: whether they are LIKE, a TRUTH.");
        dueWork(10, LONG, LONG, TRUTH, "1,1,1", "1,2,0", NO + "," + NO + ",1", "0," + (1L << 32) + ",0", "-,1,-", "1,-,-", "-,-,-");
        dueWork(10, REAL, REAL, TRUTH, NAN + "," + NAN + ",1", "0," + NO + ",0", NO + "," + NO + ",1");
        dueWork(10, DAY, DAY, TRUTH, "3000000,3000000,1", "3000000,-3000000,0");
        dueWork(10, TRUTH, TRUTH, TRUTH, "0,0,1", "1,0,0", "1,1,1");
        x.word(1);
        x.word(28);
        dueWork(10, WORD, WORD, TRUTH, "0,0,1", "0,1,0", "-,-,-");
    }

    static void workEleven() {
        sentence(0, "11 of any: whether a is ABSENT, a TRUTH (b is not looked at).");
        x.word(1);
        int q = sourceOf("0,0,0,0,0|-,-,-,-,-", LONG, REAL, WORD, DAY, TRUTH);
        for (int c = 0; c < 5; c++) {
            int w = x.work(q, 11, c, new int[] {-1, 5, 12, MIN_INT, MAX_INT}[c]);
            due("its KIND", x.kind(w, 5), TRUTH);
            dueColumn("of column " + c, w, 5, "0|1");
        }
    }

    static void workTwelve() {
        sentence(0, "12 a is a TEST: 1 for YES, 0 for NO, ABSENT for UNKNOWN, a TRUTH (b is not looked at).");
        int q = sourceOf("1|2|-", LONG);
        int test = x.compare(0, 0, LONG, 1);
        for (int b : new int[] {0, 1, -1, MIN_INT, MAX_INT}) {
            int w = x.work(q, 12, test, b);
            due("its KIND", x.kind(w, 1), TRUTH);
            dueRun("a TEST", w, "1,1|2,0|-,-");
        }
    }

    static void workOfNoRows() {
        sentence(0, "WORK: q's COLUMNS and one more, by a function of columns a, b");
        int q = sourceOf("", LONG, LONG);
        for (int function = 0; function <= 6; function++) {
            dueRun("function " + function, x.work(q, function, 0, 1), "");
            due("its COLUMNS", x.count(6), 3);
        }
        int same = sourceOf("5,6", LONG, LONG);
        dueRun("of one column twice", x.work(same, 1, 1, 1), "5,6,0");
        dueRun("of the second and the first", x.work(same, 1, 1, 0), "5,6,1");
    }

    static void workByFunctions() {
        sentence(18, "A WORK by function 0 .. 12: its number. BAD: q, function; a column (of 12: a TEST) that there is not");
        int q = sourceOf("", LONG, LONG);
        for (int function : new int[] {-1, 13, MIN_INT, MAX_INT}) {
            due("function " + function, x.work(q, function, 0, 0), BAD);
        }
        for (int n : new int[] {-1, 1, 40, MIN_INT, MAX_INT}) {
            due("q " + n, x.work(n, 0, 0, 0), BAD);
        }
        due("without TESTS", x.work(q, 12, 0, 0), BAD);
        x.pair(0, 0, 0);
        for (int n : new int[] {-1, 1, 100, MIN_INT, MAX_INT}) {
            due("TEST " + n, x.work(q, 12, n, 0), BAD);
        }
        due("TEST 0", x.work(q, 12, 0, 0), 1);
        due("function 0", x.work(q, 0, 0, 0), 2);
    }

    static void workOfColumnsThatAreNot() {
        sentence(18, "a column (of 12: a TEST) that there is not");
        int[] both = {0, 1, 2, 3, 4, 5, 6, 7, 8, 10};
        int q = sourceOf("", LONG, LONG);
        for (int n : new int[] {-1, 2, 12, MIN_INT, MAX_INT}) {
            for (int function : both) {
                due("a " + n + " by " + function, x.work(q, function, n, 0), BAD);
                due("b " + n + " by " + function, x.work(q, function, 0, n), BAD);
            }
            due("a " + n + " by 9", x.work(q, 9, n, 0), BAD);
            due("a " + n + " by 11", x.work(q, 11, n, 0), BAD);
        }
        due("how many", x.count(3), 1);
    }

    static void workOfEachKind() {
        for (int function = 0; function <= 11; function++) {
            for (int a = 0; a <= 4; a++) {
                sentence(18, "KIND: KINDS, the TEST does not FIT, a 13th COLUMN; FULL.");
                int q = sourceOf("", LONG, REAL, WORD, DAY, TRUTH);
                for (int b = 0; b <= 4; b++) {
                    int told = toldBy(function, a, b);
                    int n = x.count(3);
                    due("function " + function + " of " + a + ", " + b, x.work(q, function, a, b), told < 0 ? KIND : n);
                    due("its KIND", x.kind(n, 5), told < 0 ? BAD : told);
                }
            }
        }
    }

    private static int toldBy(int function, int a, int b) {
        if (function <= 3) {
            return a == LONG && b == LONG ? LONG : -1;
        }
        if (function <= 6) {
            return a == b ? a : -1;
        }
        switch (function) {
            case 7: return a == DAY && b == DAY ? LONG : -1;
            case 8: return a == DAY && b == LONG ? DAY : -1;
            case 9: return a == WORD ? LONG : -1;
            case 10: return a == b ? TRUTH : -1;
            default: return TRUTH;
        }
    }

    static void workOfATestThatDoesNotFit() {
        sentence(18, "KIND: KINDS, the TEST does not FIT, a 13th COLUMN; FULL.");
        int q = sourceOf("", LONG, DAY);
        due("a PAIR of two KINDS", x.work(q, 12, x.pair(0, 0, 1), 0), KIND);
        due("a column behind", x.work(q, 12, x.pair(0, 0, 2), 0), KIND);
        due("another KIND", x.work(q, 12, x.compare(0, 0, DAY, 0), 0), KIND);
        due("one that FITS", x.work(q, 12, x.compare(0, 1, DAY, 0), 0), 1);
    }

    static void workOfThirteenColumns() {
        sentence(18, "KIND: KINDS, the TEST does not FIT, a 13th COLUMN; FULL.");
        int q = twelve();
        for (int function = 0; function <= 12; function++) {
            if (function < 7 || function > 9) {
                due("a 13th by " + function, x.work(q, function, 0, 0), KIND);
            }
        }
        int eleven = x.group(q, 2047);
        due("a 12th", x.columns(x.work(eleven, 0, 9, 10)), 12);
        dueRun("a 12th", x.count(3) - 1, "1,2,3,4,5,6,1,2,3,4,5,9");
        due("a 12th by a TEST", x.columns(x.work(eleven, 12, 0, 10)), 12);
        due("a 13th behind it", x.work(x.count(3) - 1, 11, 0, 0), KIND);
    }

    static void workOfThirteenColumnsOfOtherKinds() {
        sentence(18, "KIND: KINDS, the TEST does not FIT, a 13th COLUMN; FULL.");
        int six = sourceOf("", DAY, DAY, LONG, WORD, LONG, LONG);
        int q = x.join(six, six, x.pair(0, 0, 6), 0);
        due("a 13th by 7", x.work(q, 7, 0, 1), KIND);
        due("a 13th by 8", x.work(q, 8, 0, 2), KIND);
        due("a 13th by 9", x.work(q, 9, 3, 0), KIND);
    }

    // ---- Terms: GROUP

    static void groupByNone() {
        sentence(0, "(By none: one ROW, if q has any.)");
        int q = sourceOf("5|-|5", LONG);
        dueRun("of three ROWS", x.group(q, 0), "()");
        dueRun("of one ROW", x.group(x.cut(q, 1, 1), 0), "()");
        dueRun("of none", x.group(x.cut(q, 0, 0), 0), "");
        dueRun("how many, of none", x.collect(x.group(x.cut(q, 0, 0), 0), 0, 0), "");
        dueRun("how many, of three ROWS", x.collect(x.group(q, 0), 0, 0), "3");
    }

    static void groupByAll() {
        sentence(0, "GROUP by a set of q's columns: these, by numbers");
        int q = sourceOf("1,0,7|-,2,8|1,0,9|1,-,7", LONG, DAY, LONG);
        dueRun("by all", x.group(q, 7), "1,0,7|-,2,8|1,0,9|1,-,7");
        dueRun("by the last", x.group(q, 4), "7|8|9");
        int ends = x.group(q, 5);
        dueRun("by the first and the last", ends, "1,7|-,8|1,9");
        int two = x.group(q, 6);
        due("the first KIND", x.kind(two, 0), DAY);
        due("the second KIND", x.kind(two, 1), LONG);
        due("a third one", x.kind(two, 2), BAD);
    }

    static void kindsOfEachSet() {
        sentence(0, "GROUP by a set of q's columns: these, by numbers");
        int[] kinds = {TRUTH, DAY, WORD, REAL};
        int q = sourceOf("", kinds);
        for (int set = 0; set < 16; set++) {
            int g = x.group(q, set);
            int at = 0;
            for (int c = 0; c < 4; c++) {
                if ((set >> c & 1) == 1) {
                    due("set " + set + ", column " + at, x.kind(g, at++), kinds[c]);
                }
            }
            due("set " + set + ", one behind", x.kind(g, at), BAD);
        }
    }

    static void groupsOfAbsentOnes() {
        sentence(0, "a ROW for all ROWS of q whose VALUES there are LIKE (ABSENT as ABSENT), in order of the first ones.");
        int q = sourceOf("-,0|0,-|0,0|-,-|0,-|-,0|-,-|0,0", LONG, LONG);
        dueRun("ABSENT is not 0", x.collect(x.group(q, 3), 0, 0), "-,0,2|0,-,2|0,0,2|-,-,2");
        dueRun("by the first", x.collect(x.group(q, 1), 0, 0), "-,4|0,4");
    }

    static void groupsOfReals() {
        sentence(0, "a ROW for all ROWS of q whose VALUES there are LIKE (ABSENT as ABSENT)");
        int q = sourceOf("0|" + NO + "|" + NAN + "|-|0|" + NAN, REAL);
        dueRun("0.0, -0.0, not-a-number, ABSENT", x.collect(x.group(q, 1), 0, 0), "0,2|" + NO + ",1|" + NAN + ",2|-,1");
    }

    static void groupBySets() {
        sentence(19, "A GROUP by the columns c whose bit 2^c is in set: its number. BAD: also another bit in set; FULL.");
        int q = sourceOf("", LONG, LONG, LONG);
        for (int set = 0; set <= 7; set++) {
            due("set " + set, x.group(q, set), 1 + set);
            due("its COLUMNS", x.columns(1 + set), Integer.bitCount(set));
        }
        for (int set : new int[] {8, 9, 15, 16, 1 << 12, 1 << 30, MIN_INT, -1, -8, MAX_INT}) {
            due("set " + set, x.group(q, set), BAD);
        }
        due("a column of none", x.group(1, 1), BAD);
        due("none of none", x.group(1, 0), 9);
        for (int n : new int[] {-1, 10, 40, MIN_INT, MAX_INT}) {
            due("q " + n, x.group(n, 0), BAD);
        }
    }

    static void groupByTwelve() {
        sentence(19, "BAD: also another bit in set");
        int q = twelve();
        due("all 12", x.columns(x.group(q, 4095)), 12);
        due("bit 12", x.group(q, 4096), BAD);
        due("all 13", x.group(q, 8191), BAD);
        due("bit 31", x.group(q, MIN_INT), BAD);
    }

    // ---- Terms: COLLECT

    /** A collector of a column of LONGS, all in one GROUP. */
    private static void dueCollect(int collector, String values, String want) {
        x = new Told();
        int g = x.group(sourceOf(values, LONG), 0);
        dueRun("collector " + collector + " of " + values, x.collect(g, collector, 0), want);
    }

    static void collectZero() {
        sentence(0, "0 how many there are, a LONG (the column is not looked at)");
        dueCollect(0, "5", "1");
        dueCollect(0, "-", "1");
        dueCollect(0, "-|5|-", "3");
        int g = x.group(sourceOf("5|6", LONG), 0);
        int[] columns = {-1, 0, 1, 12, MIN_INT, MAX_INT};
        for (int column : columns) {
            int c = x.collect(g, 0, column);
            due("its KIND", x.kind(c, 0), LONG);
            dueRun("column " + column, c, "2");
        }
    }

    static void collectOne() {
        sentence(0, "1 how many VALUES, a LONG (ABSENT ones are none)");
        dueCollect(1, "-", "0");
        dueCollect(1, "-|-", "0");
        dueCollect(1, "-|5|-|5", "2");
        dueCollect(1, "0|" + NO, "2");
    }

    static void collectTwo() {
        sentence(0, "2 their sum (of LONGS; ABSENT beyond a long, or of none)");
        dueCollect(2, "-", "-");
        dueCollect(2, "-|-", "-");
        dueCollect(2, "0", "0");
        dueCollect(2, "-|-3|5|-", "2");
        dueCollect(2, MAX + "|0", "" + MAX);
        dueCollect(2, MAX + "|1", "-");
        dueCollect(2, MAX + "|" + MAX, "-");
        dueCollect(2, NO + "|0", "" + NO);
        dueCollect(2, NO + "|-1", "-");
        dueCollect(2, NO + "|" + NO, "-");
        dueCollect(2, MAX + "|" + NO, "-1");
    }

    static void collectTwoOfSumsThatComeBack() {
        sentence(0, "2 their sum (of LONGS; ABSENT beyond a long, or of none)");
        dueCollect(2, MAX + "|1|-1", "" + MAX);
        dueCollect(2, NO + "|-1|1", "" + NO);
        dueCollect(2, MAX + "|" + MAX + "|" + NO + "|" + NO, "-2");
        dueCollect(2, MAX + "|" + MAX + "|" + NO, "" + (MAX - 1));
        dueCollect(2, NO + "|" + NO + "|" + MAX + "|1", "" + NO);
    }

    static void collectTwoOfSumsThatWrapAround() {
        sentence(0, "2 their sum (of LONGS; ABSENT beyond a long, or of none)");
        long quarter = 1L << 62;
        dueCollect(2, quarter + "|" + quarter, "-");
        dueCollect(2, quarter + "|" + quarter + "|" + quarter + "|" + quarter, "-");
        dueCollect(2, NO + "|" + NO + "|5", "-");
        dueCollect(2, MAX + "|" + MAX + "|7", "-");
    }

    static void collectThreeAndFour() {
        sentence(0, "3 the least, 4 the greatest .. (3, 4, 8, 9, 10 of none: ABSENT.)");
        dueCollect(3, "-", "-");
        dueCollect(4, "-|-", "-");
        dueCollect(3, "7", "7");
        dueCollect(4, "7", "7");
        dueCollect(3, "-|0|" + MAX + "|" + NO + "|-", "" + NO);
        dueCollect(4, "-|0|" + MAX + "|" + NO + "|-", "" + MAX);
        dueCollect(3, "-|5", "5");
        dueCollect(4, "-|-5", "-5");
    }

    static void collectFive() {
        sentence(0, "5 how many unlike ones, a LONG");
        dueCollect(5, "-", "0");
        dueCollect(5, "-|-|0", "1");
        dueCollect(5, "3|1|3|2|1|3|-", "3");
        dueCollect(5, NO + "|" + MAX + "|" + NO, "2");
    }

    static void collectSixAndSeven() {
        sentence(0, "6 what the first ROW has, 7 the last one (perhaps ABSENT)");
        dueCollect(6, "-|5|6", "-");
        dueCollect(7, "5|6|-", "-");
        dueCollect(6, "5|6|-", "5");
        dueCollect(7, "-|5|6", "6");
        dueCollect(6, "7", "7");
        dueCollect(7, "7", "7");
        dueCollect(6, "-", "-");
        dueCollect(7, "-", "-");
    }

    static void collectEight() {
        sentence(0, "8 of m VALUES in ORDER number (m - 1) / 2 (from 0)");
        dueCollect(8, "-", "-");
        dueCollect(8, "9", "9");
        dueCollect(8, "9|3", "3");
        dueCollect(8, "9|3|5", "5");
        dueCollect(8, "9|3|5|4", "4");
        dueCollect(8, "9|3|5|4|7", "5");
        dueCollect(8, "-|9|-|3|-", "3");
        dueCollect(8, "5|5|" + NO + "|" + MAX, "5");
    }

    static void collectNine() {
        sentence(0, "9 of LONGS their sum by how many, down");
        dueCollect(9, "-", "-");
        dueCollect(9, "7", "7");
        dueCollect(9, "7|8", "7");
        dueCollect(9, "-7|-8", "-8");
        dueCollect(9, "0|-1", "-1");
        dueCollect(9, "0|-1|0|0", "-1");
        dueCollect(9, "1|-1", "0");
        dueCollect(9, "0|1", "0");
        dueCollect(9, "-|7|-|9|-", "8");
    }

    static void collectNineBeyondALong() {
        sentence(0, "9 of LONGS their sum by how many, down");
        dueCollect(9, MAX + "|" + MAX, "" + MAX);
        dueCollect(9, MAX + "|" + MAX + "|" + MAX, "" + MAX);
        dueCollect(9, MAX + "|1", "" + (1L << 62));
        dueCollect(9, MAX + "|2", "" + (1L << 62));
        dueCollect(9, MAX + "|3", "" + ((1L << 62) + 1));
        dueCollect(9, NO + "|" + NO, "" + NO);
        dueCollect(9, NO + "|-1", "" + (-(1L << 62) - 1));
        dueCollect(9, NO + "|-2", "" + (-(1L << 62) - 1));
        dueCollect(9, MAX + "|" + NO, "-1");
        dueCollect(9, NO + "|" + NO + "|" + MAX, "-3074457345618258603");
        dueCollect(9, NO + "|" + NO + "|0", "-6148914691236517206");
    }

    static void collectTen() {
        sentence(0, "10 the one that comes most often, of several the least.");
        dueCollect(10, "-", "-");
        dueCollect(10, "-|-|5", "5");
        dueCollect(10, "9|3|9|3", "3");
        dueCollect(10, "9|3|9", "9");
        dueCollect(10, "3|9|5", "3");
        dueCollect(10, "1|2|2|3|3", "2");
        dueCollect(10, MAX + "|" + NO, "" + NO);
    }

    static void collectorsOfTwoHundredRows() {
        sentence(0, "told for each ROW of the GROUP's own ROWS of q, in order, by a column of q");
        x.table(1, 0);
        x.fill(0, 50, 1, 1);
        for (int i = 0; i < 50; i++) {
            x.put(0, i, 0, MAX - i);
        }
        int q = x.source(0);
        int two = x.also(q, q);
        int all = x.group(x.also(two, two), 0);
        String[] want = {"200", "200", "-", "" + (MAX - 49), "" + MAX, "50", "" + MAX, "" + (MAX - 49), "" + (MAX - 25),
            "" + (MAX - 25), "" + (MAX - 49)};
        for (int collector = 0; collector <= 10; collector++) {
            dueRun("collector " + collector, x.collect(all, collector, 0), want[collector]);
        }
    }

    static void collectorsOfEachKind() {
        for (int collector = 0; collector <= 10; collector++) {
            sentence(20, "KINDS, a 13th COLUMN; FULL.");
            int g = x.group(sourceOf("", LONG, REAL, WORD, DAY, TRUTH), 0);
            for (int kind = 0; kind <= 4; kind++) {
                int n = x.count(3);
                boolean ofLongs = collector == 2 || collector == 9;
                boolean tellsLong = ofLongs || collector == 0 || collector == 1 || collector == 5;
                due("collector " + collector + " of " + kind, x.collect(g, collector, kind), ofLongs && kind != LONG ? KIND : n);
                due("its KIND", x.kind(n, 0), ofLongs && kind != LONG ? BAD : tellsLong ? LONG : kind);
            }
        }
    }

    static void collectorsOfRealsAndWords() {
        sentence(0, "3 the least, 4 the greatest; 5 how many unlike ones .. 10 the one that comes most often, of several the least.");
        int g = x.group(sourceOf("0|" + NO + "|" + NAN + "|" + real(-1), REAL), 0);
        long[] want = {4, 4, 0, real(-1), NAN, 4, 0, real(-1), NO, 0, real(-1)};
        for (int collector : new int[] {0, 1, 3, 4, 5, 6, 7, 8, 10}) {
            dueRun("REALS by " + collector, x.collect(g, collector, 0), "" + want[collector]);
        }
        x.word(letters("b"));
        x.word(letters("a"));
        x.word(letters("ab"));
        int w = x.group(sourceOf("0|1|2|-|0|2", WORD), 0);
        long[] words = {6, 5, 0, 1, 0, 3, 0, 2, 2, 0, 2};
        for (int collector : new int[] {0, 1, 3, 4, 5, 6, 7, 8, 10}) {
            dueRun("WORDS by " + collector, x.collect(w, collector, 0), "" + words[collector]);
        }
    }

    static void collectOfEachGroupsOwnRows() {
        sentence(0, "COLLECT of a GROUP, or of a COLLECT of one: its COLUMNS and one more, told for each ROW of the GROUP's own ROWS");
        int q = sourceOf("1,5|2,7|1,6|-,8|2,-|-,9", LONG, LONG);
        int g = x.group(q, 1);
        int sum = x.collect(g, 2, 1);
        int least = x.collect(sum, 3, 1);
        dueRun("a COLLECT", sum, "1,11|2,7|-,17");
        dueRun("a COLLECT of it", least, "1,11,5|2,7,7|-,17,8");
        dueRun("another one of the GROUP", x.collect(g, 4, 0), "1,1|2,2|-,-");
        dueRun("of q's column, not of its own", x.collect(least, 4, 1), "1,11,5,6|2,7,7,7|-,17,8,9");
        due("a column that q has not", x.collect(least, 4, 2), BAD);
    }

    static void collectByCollectors() {
        sentence(20, "A COLLECT by collector 0 .. 10: its number. BAD: q, the collector, a column that the GROUP's q has not");
        int q = sourceOf("", LONG, LONG);
        int g = x.group(q, 1);
        for (int collector : new int[] {-1, 11, MIN_INT, MAX_INT}) {
            due("collector " + collector, x.collect(g, collector, 0), BAD);
        }
        for (int n : new int[] {-1, 2, 40, MIN_INT, MAX_INT}) {
            due("q " + n, x.collect(n, 0, 0), BAD);
            for (int collector = 1; collector <= 10; collector++) {
                due("column " + n + " by " + collector, x.collect(g, collector, n), BAD);
            }
        }
        due("the last column of q, which the GROUP has not", x.collect(g, 1, 1), 2);
    }

    static void collectOfWhatIsNoGroup() {
        sentence(20, "KIND: q is no GROUP, no COLLECT");
        startForms();
        int g = 1;
        int c = x.collect(g, 0, 0);
        int[] not = {0, x.where(g, 0), x.join(g, g, 0, 0), x.work(g, 11, 0, 0), x.work(g, 12, 0, 0), x.order(g, 0, true), x.once(g),
            x.cut(c, 0, 1), x.also(g, g), x.order(c, 0, true)};
        for (int q : not) {
            due("QUERY " + q, x.collect(q, 0, 0), KIND);
            due("QUERY " + q, x.collect(q, 2, 0), KIND);
        }
        due("a GROUP of a COLLECT", x.collect(x.group(c, 0), 0, 0), x.count(3) - 1);
    }

    static void collectOfThirteenColumns() {
        sentence(20, "KINDS, a 13th COLUMN; FULL.");
        int q = twelve();
        int g = x.group(q, 4095);
        for (int collector = 0; collector <= 10; collector++) {
            due("a 13th by " + collector, x.collect(g, collector, 0), KIND);
        }
        int eleven = x.group(q, 2047);
        int c = x.collect(eleven, 2, 11);
        due("a 12th", x.columns(c), 12);
        dueRun("a 12th", c, "1,2,3,4,5,6,1,2,3,4,5,6");
        due("a 13th behind it", x.collect(c, 0, 0), KIND);
    }

    // ---- Terms: ORDER, ONCE, CUT, ALSO

    static void orderWithAbsentOnesLast() {
        sentence(0, "ORDER by a column: upwards or down, ABSENT ones last in both; of like ones those first that were.");
        int q = sourceOf("-,1|5,2|3,3|-,4|5,5|3,6", LONG, LONG);
        dueRun("upwards", x.order(q, 0, false), "3,3|3,6|5,2|5,5|-,1|-,4");
        dueRun("down", x.order(q, 0, true), "5,2|5,5|3,3|3,6|-,1|-,4");
        dueRun("of none", x.order(x.cut(q, 0, 0), 0, true), "");
        dueRun("of one", x.order(x.cut(q, 0, 1), 0, true), "-,1");
        dueRun("by one, then by another", x.order(x.order(q, 1, true), 0, false), "3,6|3,3|5,5|5,2|-,4|-,1");
        int absent = x.where(q, x.compare(3, 0, 0, 0));
        dueRun("ABSENT ones alone, down", x.order(absent, 0, true), "-,1|-,4");
        dueRun("ABSENT ones alone", x.order(absent, 0, false), "-,1|-,4");
    }

    static void orderOfTwoHundredRows() {
        sentence(0, "ORDER by a column: upwards or down");
        x.table(1, 0);
        x.fill(0, 50, 1, 1);
        for (int i = 0; i < 50; i++) {
            x.put(0, i, 0, i % 2 == 0 ? i : -i);
        }
        int q = x.source(0);
        int two = x.also(q, q);
        int four = x.also(two, two);
        due("upwards", x.run(x.order(four, 0, false), 1), 200);
        due("the least", x.cell(0, 0), -49);
        due("the fifth", x.cell(4, 0), -47);
        due("the greatest", x.cell(199, 0), 48);
        due("down", x.run(x.order(four, 0, true), 1), 200);
        due("the greatest", x.cell(3, 0), 48);
        due("the next one", x.cell(4, 0), 46);
        due("the least", x.cell(199, 0), -49);
    }

    static void orderByColumns() {
        sentence(21, "An ORDER: its number. BAD; FULL.");
        int q = sourceOf("", LONG, DAY);
        due("the first", x.order(q, 0, false), 1);
        due("the last", x.order(q, 1, true), 2);
        for (int n : new int[] {-1, 2, 12, MIN_INT, MAX_INT}) {
            due("column " + n, x.order(q, n, false), BAD);
        }
        for (int n : new int[] {-1, 3, 40, MIN_INT, MAX_INT}) {
            due("q " + n, x.order(n, 0, false), BAD);
        }
    }

    static void onceWithAbsentOnes() {
        sentence(0, "ONCE: ROWS that have a like one (ABSENT as ABSENT) ahead do not come.");
        int q = sourceOf("-,0|0,-|0,0|-,0|-,-|0,-|0,0|-,-|0,1", LONG, LONG);
        dueRun("once", x.once(q), "-,0|0,-|0,0|-,-|0,1");
        dueRun("once of once", x.once(x.once(q)), "-,0|0,-|0,0|-,-|0,1");
        dueRun("of none", x.once(x.cut(q, 0, 0)), "");
        due("200 ROWS of one", x.run(x.once(manyOf(q)), 1), 1);
    }

    /** 200 ROWS of ROW number 2 of a QUERY. */
    private static int manyOf(int q) {
        int one = x.cut(q, 2, 1);
        int two = x.also(one, one);
        int five = x.also(x.also(two, two), one);
        int twentyFive = five;
        for (int i = 0; i < 4; i++) {
            twentyFive = x.also(twentyFive, five);
        }
        int fifty = x.also(twentyFive, twentyFive);
        int hundred = x.also(fifty, fifty);
        return x.also(hundred, hundred);
    }

    static void onceOfWhatIsNot() {
        sentence(22, "ONCE: its number. BAD; FULL.");
        sourceOf("", LONG);
        for (int n : new int[] {-1, 1, 40, MIN_INT, MAX_INT}) {
            due("once(" + n + ")", x.once(n), BAD);
        }
        due("once", x.once(0), 1);
    }

    static void cutAtTheEnds() {
        sentence(0, "CUT: from ROW number skip on, n at most.");
        int q = sourceOf("1|2|3", LONG);
        dueRun("all", x.cut(q, 0, 3), "1|2|3");
        dueRun("more than all", x.cut(q, 0, 4), "1|2|3");
        dueRun("fewer", x.cut(q, 0, 2), "1|2");
        dueRun("none", x.cut(q, 0, 0), "");
        dueRun("behind the first", x.cut(q, 1, 1), "2");
        dueRun("the last", x.cut(q, 2, 2), "3");
        dueRun("behind the last", x.cut(q, 3, 1), "");
        dueRun("far behind", x.cut(q, 1000, 1000), "");
        dueRun("the most", x.cut(q, 0, 1000), "1|2|3");
        dueRun("of none", x.cut(x.cut(q, 0, 0), 0, 1), "");
    }

    static void cutByNumbers() {
        sentence(23, "A CUT (skip, n 0 .. 1000): its number. BAD; FULL.");
        int q = sourceOf("", LONG);
        due("0, 0", x.cut(q, 0, 0), 1);
        due("1000, 1000", x.cut(q, 1000, 1000), 2);
        for (int n : new int[] {-1, 1001, MIN_INT, MAX_INT}) {
            due("skip " + n, x.cut(q, n, 1), BAD);
            due("n " + n, x.cut(q, 1, n), BAD);
        }
        for (int n : new int[] {-1, 3, 40, MIN_INT, MAX_INT}) {
            due("q " + n, x.cut(n, 0, 0), BAD);
        }
    }

    static void alsoOfNone() {
        sentence(0, "ALSO: the ROWS of q, then of r, of the same KINDS.");
        int q = sourceOf("1|2", LONG);
        int none = x.cut(q, 0, 0);
        dueRun("then none", x.also(q, none), "1|2");
        dueRun("none, then", x.also(none, q), "1|2");
        dueRun("none, then none", x.also(none, none), "");
        dueRun("itself", x.also(q, q), "1|2|1|2");
    }

    static void alsoOfOtherKinds() {
        for (int kind = 0; kind <= 4; kind++) {
            sentence(24, "ALSO: its number. BAD; KIND; FULL.");
            int q = sourceOf("", LONG, kind);
            int r = sourceOf("", LONG, LONG);
            int one = sourceOf("", LONG);
            due("LONG, " + kind + " and LONG, LONG", x.also(q, r), kind == LONG ? 3 : KIND);
            int first = sourceOf("", kind, LONG);
            due(kind + ", LONG and LONG, LONG", x.also(first, r), kind == LONG ? x.count(3) - 1 : KIND);
            due("LONG, LONG and " + kind + ", LONG", x.also(r, first), kind == LONG ? x.count(3) - 1 : KIND);
            due("fewer COLUMNS", x.also(q, one), KIND);
            due("more COLUMNS", x.also(one, q), KIND);
            due("the same", x.also(q, q), x.count(3) - 1);
        }
        for (int n : new int[] {-1, 40, MIN_INT, MAX_INT}) {
            due("q " + n, x.also(n, 0), BAD);
            due("r " + n, x.also(0, n), BAD);
        }
    }

    // ---- promises 15, 16, 25, 26

    static void sourceOfTables() {
        sentence(15, "A SOURCE: its number. BAD; FULL.");
        due("without TABLES", x.source(0), BAD);
        x.table(1, 0);
        due("the first", x.source(0), 0);
        for (int t : new int[] {-1, 1, 6, MIN_INT, MAX_INT}) {
            due("source(" + t + ")", x.source(t), BAD);
        }
        for (int t = 1; t < 6; t++) {
            x.table(1, 0);
        }
        due("the sixth", x.source(5), 1);
        due("the seventh", x.source(6), BAD);
    }

    static void whereOfTests() {
        sentence(16, "A WHERE: its number. BAD; KIND: the TEST does not FIT; FULL.");
        int q = sourceOf("", LONG, DAY);
        due("without TESTS", x.where(q, 0), BAD);
        int fits = x.compare(0, 1, DAY, 0);
        int[] not = {x.compare(0, 1, LONG, 0), x.compare(3, 2, LONG, 0), x.pair(0, 0, 1), x.logic(0, fits, 1), x.logic(1, 2, fits)};
        for (int test : not) {
            due("TEST " + test, x.where(q, test), KIND);
        }
        for (int n : new int[] {-1, 6, 100, MIN_INT, MAX_INT}) {
            due("TEST " + n, x.where(q, n), BAD);
        }
        for (int n : new int[] {-1, 1, 40, MIN_INT, MAX_INT}) {
            due("q " + n, x.where(n, fits), BAD);
        }
        due("one that FITS", x.where(q, fits), 1);
    }

    static void columnsOfWhatIsNot() {
        sentence(25, "How many COLUMNS a QUERY has. BAD.");
        sourceOf("", LONG, LONG, LONG, LONG, LONG, LONG);
        due("columns", x.columns(0), 6);
        for (int n : new int[] {-1, 1, 40, MIN_INT, MAX_INT}) {
            due("columns(" + n + ")", x.columns(n), BAD);
        }
    }

    static void kindOfWhatIsNot() {
        sentence(26, "The KIND of a COLUMN. BAD.");
        sourceOf("", TRUTH, REAL);
        due("the first", x.kind(0, 0), TRUTH);
        due("the last", x.kind(0, 1), REAL);
        for (int n : new int[] {-1, 2, 12, MIN_INT, MAX_INT}) {
            due("column " + n, x.kind(0, n), BAD);
            due("QUERY " + n, x.kind(n, 0), BAD);
        }
        due("QUERY 1", x.kind(1, 0), BAD);
    }
}
