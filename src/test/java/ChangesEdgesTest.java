/** Each sentence about kept results and changes that names a boundary: promises 34 to 42. */
public final class ChangesEdgesTest extends Checks {
    public static void main(String[] args) throws IllegalAccessException {
        playAll(ChangesEdgesTest.class);
    }

    // ---- promises 34 to 36

    static void eightResultsAreKept() {
        sentence(34, "A QUERY's RESULT is KEPT from now on (8 at most): its number. BAD; FULL.");
        int q = sourceOf("1|2", LONG);
        due("none is KEPT", x.kept(0), BAD);
        for (int k = 0; k < 8; k++) {
            due("KEPT RESULT number " + k, x.keep(q), k);
            due("how many", x.count(4), k + 1);
        }
        due("the ninth", x.keep(q), FULL);
        due("how many", x.count(4), 8);
        due("the last one", x.kept(7), 2);
        due("the ninth", x.kept(8), BAD);
    }

    static void keepingWhatIsNot() {
        sentence(34, "its number. BAD; FULL.");
        due("without QUERIES", x.keep(0), BAD);
        sourceOf("", LONG);
        for (int n : new int[] {-1, 1, 40, MIN_INT, MAX_INT}) {
            due("keep(" + n + ")", x.keep(n), BAD);
        }
        due("the first", x.keep(0), 0);
        fillQueries(0);
        due("the 40th QUERY", x.keep(39), 1);
        due("the 41st", x.keep(40), BAD);
    }

    static void keepingIsNoRun() {
        sentence(34, "A QUERY's RESULT is KEPT from now on");
        int q = sourceOf("1|2", LONG);
        due("keep", x.keep(q), 0);
        due("kept", x.kept(0), 2);
        due("keptCell", x.keptCell(0, 1, 0), 2);
        due("ROWS of the latest run", x.count(5), 0);
        due("its COLUMNS", x.count(6), 0);
        due("looked", x.looked(0), 0);
        due("cell", x.cell(0, 0), NO);
    }

    static void keptByTheTablesAsTheyAreNow() {
        sentence(35, "How many ROWS a KEPT RESULT has, by the TABLES as they are now.");
        int q = sourceOf("", LONG);
        int k = x.keep(x.where(q, x.compare(2, 0, LONG, 0)));
        due("no RECORDS", x.kept(k), 0);
        x.insert(0);
        due("insert", x.kept(k), 0);
        x.put(0, 0, 0, 5);
        due("put", x.kept(k), 1);
        x.put(0, 0, 0, -5);
        due("put", x.kept(k), 0);
        x.put(0, 0, 0, 6);
        x.transfer(q, 0);
        due("transfer", x.kept(k), 2);
        x.absent(0, 0, 0);
        due("absent", x.kept(k), 1);
        x.delete(0, 1);
        due("delete", x.kept(k), 0);
        // From 5 the first draw is 1222621274: 4775864 modulo 1000 less 500 is 364.
        x.fill(0, 1, 5, 1000);
        due("fill", x.kept(k), 1);
        due("its VALUE", x.keptCell(k, 0, 0), 364);
        x.begin();
        x.put(0, 2, 0, 9);
        due("put in a change", x.keptCell(k, 0, 0), 9);
        x.rollback();
        due("rollback", x.keptCell(k, 0, 0), 364);
        x.begin();
        x.delete(0, 2);
        x.commit();
        due("commit", x.kept(k), 0);
    }

    static void keptWithoutRowsOrColumns() {
        sentence(35, "How many ROWS a KEPT RESULT has");
        int q = sourceOf("1", LONG);
        int none = x.keep(x.group(q, 0));
        int empty = x.keep(x.cut(q, 0, 0));
        due("a ROW without COLUMNS", x.kept(none), 1);
        due("its VALUE", x.keptCell(none, 0, 0), NO);
        due("no ROWS", x.kept(empty), 0);
        due("their VALUE", x.keptCell(empty, 0, 0), NO);
        x.delete(0, 0);
        due("a GROUP of none", x.kept(none), 0);
    }

    static void keptOf200And201Rows() {
        sentence(35, "by the TABLES as they are now. BAD; MUCH.");
        x.table(1, 0);
        x.fill(0, 50, 1, 1);
        int q = x.source(0);
        int two = x.also(q, q);
        int one = sourceOf("", LONG);
        int all = x.also(x.also(two, two), one);
        int k = x.keep(all);
        int cut = x.keep(x.cut(all, 0, 1));
        due("200", x.kept(k), 200);
        due("a CUT", x.kept(cut), 1);
        due("the last cell", x.keptCell(k, 199, 0), 0);
        x.insert(1);
        due("201", x.kept(k), MUCH);
        due("a CUT of them", x.kept(cut), MUCH);
        due("a cell", x.keptCell(k, 0, 0), NO);
        due("a cell of the CUT", x.keptCell(cut, 0, 0), NO);
        x.delete(1, 0);
        due("200 again", x.kept(k), 200);
        due("a cell", x.keptCell(k, 0, 0), 0);
        due("KEPT though it is MUCH", x.keep(x.also(all, all)), 2);
        due("it is MUCH", x.kept(2), MUCH);
    }

    static void keptNumbers() {
        sentence(35, "BAD; MUCH.");
        int q = sourceOf("1", LONG);
        x.keep(q);
        for (int k : new int[] {-1, 1, 8, MIN_INT, MAX_INT}) {
            due("kept(" + k + ")", x.kept(k), BAD);
            due("keptCell(" + k + ", 0, 0)", x.keptCell(k, 0, 0), NO);
        }
        due("kept(0)", x.kept(0), 1);
    }

    static void keptCellsAtTheEnds() {
        sentence(36, "BITS of a VALUE of it. NO: there is none such, it is ABSENT, or MUCH.");
        int q = sourceOf("1,2|-,4|5,6", LONG, LONG);
        int k = x.keep(q);
        due("first", x.keptCell(k, 0, 0), 1);
        due("last", x.keptCell(k, 2, 1), 6);
        due("ABSENT", x.keptCell(k, 1, 0), NO);
        for (int n : new int[] {-1, 3, 200, MIN_INT, MAX_INT}) {
            due("row " + n, x.keptCell(k, n, 0), NO);
            due("column " + n, x.keptCell(k, 0, n), NO);
        }
        due("column 2", x.keptCell(k, 0, 2), NO);
    }

    // ---- promises 37 to 39

    static void oneChangeIsOpen() {
        sentence(37, "A change is open from now on: 1. STATE: one is.");
        due("without TABLES", x.begin(), 1);
        due("again", x.begin(), STATE);
        due("count", x.count(7), 1);
        due("commit", x.commit(), 0);
        due("count", x.count(7), 0);
        due("another one", x.begin(), 1);
        due("rollback", x.rollback(), 0);
        due("count", x.count(7), 0);
        due("a third one", x.begin(), 1);
    }

    static void aRefusedBeginStartsNothing() {
        sentence(37, "STATE: one is.");
        sourceOf("5", LONG);
        x.begin();
        x.put(0, 0, 0, 6);
        due("begin", x.begin(), STATE);
        x.put(0, 0, 0, 7);
        due("both are counted", x.rollback(), 2);
        due("both are taken back", x.value(0, 0, 0), 5);
    }

    static void commitCountsWhatWasNotRefused() {
        sentence(38, "The open change stays: how many of insert(), fill() (one), put(), absent(), delete(), transfer() (one) it had that were not refused.");
        int q = sourceOf("5|6", LONG);
        String[] calls = {"insert", "fill", "put", "put the same", "absent", "absent again", "delete", "transfer", "transfer none"};
        for (String call : calls) {
            Told at = x.twin();
            at.begin();
            change(at, call, q);
            due("one " + call, at.commit(), 1);
            due("none is open", at.commit(), STATE);
            at.begin();
            due("a new one has none", at.commit(), 0);
        }
        x.begin();
        for (String call : calls) {
            change(x, call, q);
        }
        due("all of them", x.commit(), calls.length);
    }

    private static void change(Told at, String call, int q) {
        switch (call) {
            case "insert": due(call, at.insert(0) >= 2 ? 1 : 0, 1); break;
            case "fill": due(call, at.fill(0, 20, 1, 1) >= 2 ? 1 : 0, 1); break;
            case "put": due(call, at.put(0, 0, 0, 7), 1); break;
            case "put the same": due(call, at.put(0, 0, 0, 7), 1); break;
            case "absent": due(call, at.absent(0, 0, 0), 1); break;
            case "absent again": due(call, at.absent(0, 0, 0), 1); break;
            case "delete": due(call, at.delete(0, 1) >= 0 ? 1 : 0, 1); break;
            case "transfer": due(call, at.transfer(q, 0) > 0 ? 1 : 0, 1); break;
            default: due(call, at.transfer(at.cut(q, 0, 0), 0), 0);
        }
    }

    static void commitCountsNoOthers() {
        sentence(38, "how many of insert(), fill() (one), put(), absent(), delete(), transfer() (one) it had that were not refused");
        int q = sourceOf("5|6", LONG);
        x.put(0, 0, 0, 8);
        x.begin();
        x.word(1);
        x.table(1, 0);
        x.insert(1);
        x.put(0, 0, 1, 0);
        x.put(0, 2, 0, 0);
        x.absent(0, 0, 1);
        x.delete(0, 2);
        x.fill(0, 61, 1, 1);
        x.fill(0, 59, 1, 1);
        x.transfer(q, 1);
        x.transfer(9, 0);
        x.value(0, 0, 0);
        x.records(0);
        x.compare(0, 0, LONG, 5);
        x.pair(0, 0, 0);
        x.logic(2, 0, 0);
        x.fits(0, q);
        x.source(0);
        x.where(q, 0);
        x.run(q, 1);
        x.keep(q);
        x.kept(0);
        x.begin();
        x.count(7);
        due("none of them", x.commit(), 0);
    }

    static void commitKeepsAll() {
        sentence(38, "The open change stays");
        int q = sourceOf("5|6", LONG);
        x.begin();
        x.put(0, 0, 0, 7);
        x.delete(0, 1);
        load(0, "8");
        due("how many", x.commit(), 4);
        dueRun("it stays", q, "7|8");
        due("no way back", x.rollback(), STATE);
        x.begin();
        x.put(0, 0, 0, 9);
        x.rollback();
        dueRun("as it was committed", q, "7|8");
        due("the next number", x.insert(0), 3);
    }

    static void withoutAChange() {
        sentence(38, "STATE: none is open.");
        due("commit of a new object", x.commit(), STATE);
        sourceOf("5", LONG);
        due("commit behind calls", x.commit(), STATE);
        due("rollback behind calls", x.rollback(), STATE);
        x.begin();
        due("commit", x.commit(), 0);
        due("commit again", x.commit(), STATE);
        due("rollback", x.rollback(), STATE);
    }

    static void rollbackWithoutAChange() {
        sentence(39, "STATE: none is open.");
        due("rollback of a new object", x.rollback(), STATE);
        sourceOf("5", LONG);
        x.begin();
        x.put(0, 0, 0, 6);
        due("rollback", x.rollback(), 1);
        x.put(0, 0, 0, 7);
        due("rollback again", x.rollback(), STATE);
        due("what came behind it stays", x.value(0, 0, 0), 7);
        due("commit", x.commit(), STATE);
    }

    static void rollbackOfEachCall() {
        sentence(39, "All RECORDS, VALUES and numbers of RECORDS become what they were as the change was opened");
        int q = sourceOf("5,-|6,7|8,9", LONG, LONG);
        x.delete(0, 1);
        String[] calls = {"insert", "fill", "put", "put where it was ABSENT", "absent", "delete", "transfer", "all"};
        for (String call : calls) {
            Told at = x.twin();
            at.begin();
            boolean all = call.equals("all");
            int n = 0;
            if (all || call.equals("insert")) {
                due("insert", at.insert(0), 3);
                n++;
            }
            if (all || call.equals("fill")) {
                at.fill(0, 50, 1, 9);
                n++;
            }
            if (all || call.equals("put")) {
                at.put(0, 0, 0, 1);
                n++;
            }
            if (all || call.equals("put where it was ABSENT")) {
                at.put(0, 0, 1, 1);
                n++;
            }
            if (all || call.equals("absent")) {
                at.absent(0, 2, 1);
                n++;
            }
            if (all || call.equals("delete")) {
                at.delete(0, 2);
                n++;
            }
            if (all || call.equals("transfer")) {
                at.transfer(at.cut(q, 0, 1), 0);
                n++;
            }
            due(call + ": how many", at.rollback(), n);
            due(call + ": records", at.records(0), 2);
            at.run(q, 1);
            dueText(call + ": ROWS", latest(at), "5,-|8,9");
            due(call + ": the one that went before", at.put(0, 1, 0, 1), BAD);
            due(call + ": the next number", at.insert(0), 3);
            due(call + ": none is open", at.count(7), 0);
        }
    }

    static void rollbackOfAllTables() {
        sentence(39, "All RECORDS, VALUES and numbers of RECORDS become what they were");
        for (int t = 0; t < 6; t++) {
            tableOf("1|2", LONG);
        }
        x.begin();
        for (int t = 0; t < 6; t++) {
            x.put(t, 0, 0, 9);
            x.delete(t, 1);
            x.fill(t, 3, 1, 1);
        }
        due("how many", x.rollback(), 18);
        for (int t = 0; t < 6; t++) {
            due("first of " + t, x.value(t, 0, 0), 1);
            due("last of " + t, x.value(t, 1, 0), 2);
            due("records of " + t, x.records(t), 2);
            due("the next number of " + t, x.insert(t), 2);
        }
    }

    static void rollbackGivesRoomBack() {
        sentence(39, "All RECORDS, VALUES and numbers of RECORDS become what they were as the change was opened");
        x.table(1, 0);
        for (int from = 0; from < 120; from += 60) {
            x.fill(0, 60, 1, 1);
            deleteAll(0, from, from + 60);
        }
        x.begin();
        x.fill(0, 60, 1, 1);
        deleteAll(0, 120, 140);
        due("180 were, 40 are there", x.fill(0, 20, 1, 1), 180);
        due("200 were", x.insert(0), FULL);
        due("how many", x.rollback(), 22);
        due("none is there", x.records(0), 0);
        due("120 were", x.fill(0, 60, 1, 1), 120);
        due("60 are there", x.insert(0), FULL);
    }

    static void rollbackOfAFullTable() {
        sentence(39, "All RECORDS, VALUES and numbers of RECORDS become what they were as the change was opened");
        x.table(1, 0);
        x.fill(0, 60, 1, 1);
        x.begin();
        deleteAll(0, 0, 60);
        due("insert", x.insert(0), 60);
        due("how many", x.rollback(), 61);
        due("60 are there again", x.records(0), 60);
        due("no room", x.insert(0), FULL);
        due("the last one", x.delete(0, 59), 59);
        due("the number that was taken back", x.insert(0), 60);
    }

    static void rollbackLeavesTheRest() {
        sentence(39, "All RECORDS, VALUES and numbers of RECORDS become what they were");
        int q = sourceOf("5", LONG);
        x.begin();
        x.word(1);
        x.pair(0, 0, 0);
        x.where(q, 0);
        x.keep(1);
        x.put(0, 0, 0, 6);
        x.run(q, 2);
        due("how many", x.rollback(), 1);
        int[] want = {1, 1, 1, 2, 1, 1, 1, 0};
        for (int what = 0; what <= 7; what++) {
            due("count(" + what + ")", x.count(what), want[what]);
        }
        dueText("the latest run", latest(x), "6");
        due("the KEPT RESULT", x.keptCell(0, 0, 0), 5);
    }

    static void oneChangeBehindAnother() {
        sentence(39, "become what they were as the change was opened, which is none then: how many it had");
        int q = sourceOf("1", LONG);
        for (int i = 0; i < 5; i++) {
            x.begin();
            x.put(0, 0, 0, 10 + i);
            due("taken back", x.rollback(), 1);
            x.begin();
            x.put(0, 0, 0, 20 + i);
            x.insert(0);
            due("committed", x.commit(), 2);
            x.delete(0, i + 1);
            dueRun("it stays", q, "" + (20 + i));
        }
    }

    // ---- promise 40

    static void transferKeepsValuesAndOrder() {
        sentence(40, "The ROWS of a QUERY become RECORDS of a TABLE of just its KINDS, all or none: how many.");
        x.word(1);
        int[] kinds = {LONG, REAL, WORD, DAY, TRUTH};
        int q = sourceOf(NO + "," + NAN + ",0,3000000,1|-,-,-,-,-|" + MAX + "," + NO + ",0,-3000000,0", kinds);
        int r = sourceOf("", kinds);
        due("how many", x.transfer(x.order(q, 0, true), 1), 3);
        dueRun("RECORDS", r, MAX + "," + NO + ",0,-3000000,0|" + NO + "," + NAN + ",0,3000000,1|-,-,-,-,-");
        due("the first one", x.value(1, 0, 3), -3000000);
        due("the last one", x.delete(1, 2), 2);
        due("the next number", x.insert(1), 3);
    }

    static void transferOfNone() {
        sentence(40, "all or none: how many");
        int q = sourceOf("", LONG);
        due("an empty QUERY", x.transfer(q, 0), 0);
        due("records", x.records(0), 0);
        x.fill(0, 60, 1, 1);
        due("none into a full TABLE", x.transfer(x.cut(q, 0, 0), 0), 0);
        due("one into a full TABLE", x.transfer(x.cut(q, 0, 1), 0), FULL);
    }

    static void transferIntoItself() {
        sentence(40, "The ROWS of a QUERY become RECORDS of a TABLE of just its KINDS");
        int q = sourceOf("1|2|3", LONG);
        due("twice as many", x.transfer(q, 0), 3);
        dueRun("RECORDS", q, "1|2|3|1|2|3");
        due("some of them", x.transfer(x.where(q, x.compare(0, 0, LONG, 2)), 0), 2);
        dueRun("RECORDS", q, "1|2|3|1|2|3|2|2");
    }

    static void transferOfSixtyRows() {
        sentence(40, "FULL: not for all.");
        x.table(1, 0);
        x.fill(0, 60, 1, 1);
        x.table(1, 0);
        int q = x.source(0);
        due("60 into an empty TABLE", x.transfer(q, 1), 60);
        x.delete(1, 0);
        due("60 beside 59", x.transfer(q, 1), FULL);
        due("none of them came", x.records(1), 59);
        due("two beside 59", x.transfer(x.cut(q, 0, 2), 1), FULL);
        due("none of them came", x.records(1), 59);
        due("one beside 59", x.transfer(x.cut(q, 0, 1), 1), 1);
        x.table(1, 0);
        int more = x.also(q, x.cut(q, 0, 1));
        due("61 into an empty TABLE", x.transfer(more, 2), FULL);
        due("none of them came", x.records(2), 0);
        int two = x.also(q, q);
        due("200 into an empty TABLE", x.transfer(x.cut(x.also(two, x.cut(two, 0, 80)), 0, 200), 2), FULL);
        due("the next number", x.insert(2), 0);
    }

    static void transferOfTheLastNumbers() {
        sentence(40, "FULL: not for all.");
        x.table(1, 0);
        x.table(1, 0);
        x.fill(1, 60, 1, 1);
        int q = x.source(1);
        for (int from = 0; from < 180; from += 60) {
            due("60", x.transfer(q, 0), 60);
            deleteAll(0, from, from + 60);
        }
        due("21 of 20", x.transfer(x.cut(q, 0, 21), 0), FULL);
        due("none of them came", x.records(0), 0);
        due("20 of 20", x.transfer(x.cut(q, 0, 20), 0), 20);
        due("one of none", x.transfer(x.cut(q, 0, 1), 0), FULL);
        due("none of none", x.transfer(x.cut(q, 0, 0), 0), 0);
        due("records", x.records(0), 20);
    }

    static void transferOfOtherKinds() {
        for (int kind = 0; kind <= 4; kind++) {
            sentence(40, "RECORDS of a TABLE of just its KINDS .. BAD; KIND");
            int q = sourceOf("", LONG, kind);
            for (int other = 0; other <= 4; other++) {
                int t = x.table(2, kinds(LONG, other));
                due("LONG, " + kind + " into LONG, " + other, x.transfer(q, t), kind == other ? 0 : KIND);
            }
            x = new Told();
            int r = sourceOf("", kind, LONG);
            for (int other = 0; other <= 4; other++) {
                int t = x.table(2, kinds(other, LONG));
                due(kind + ", LONG into " + other + ", LONG", x.transfer(r, t), kind == other ? 0 : KIND);
            }
        }
        x = new Told();
        int q = sourceOf("5,6", LONG, LONG);
        x.table(1, 0);
        x.table(3, 0);
        due("fewer COLUMNS", x.transfer(q, 1), KIND);
        due("more COLUMNS", x.transfer(q, 2), KIND);
        due("no COLUMNS", x.transfer(x.group(q, 0), 1), KIND);
        due("12 COLUMNS", x.transfer(x.join(x.source(2), x.source(2), x.pair(0, 0, 1), 0), 2), KIND);
        for (int n : new int[] {-1, 6, 40, MIN_INT, MAX_INT}) {
            due("QUERY " + n, x.transfer(n, 0), BAD);
            due("TABLE " + n, x.transfer(q, n), BAD);
        }
        due("the next TABLE", x.transfer(q, 3), BAD);
    }

    static void transferOfMuch() {
        sentence(40, "BAD; KIND; MUCH; FULL: not for all.");
        x.table(1, 0);
        x.fill(0, 51, 1, 1);
        x.table(2, 0);
        x.table(1, 0);
        int q = x.source(0);
        int two = x.also(q, q);
        int four = x.also(two, two);
        due("204 ROWS", x.transfer(four, 2), MUCH);
        due("one of 204 ROWS", x.transfer(x.cut(four, 0, 1), 2), MUCH);
        due("none of 204 ROWS", x.transfer(x.cut(four, 0, 0), 2), MUCH);
        due("of other KINDS", x.transfer(four, 1), KIND);
        x.fill(2, 60, 1, 1);
        due("one of 204 ROWS into a full TABLE", x.transfer(x.cut(four, 0, 1), 2), MUCH);
        x.delete(0, 0);
        due("200 ROWS into a full TABLE", x.transfer(four, 2), FULL);
        deleteAll(2, 0, 60);
        due("one of 200 ROWS", x.transfer(x.cut(four, 0, 1), 2), 1);
    }

    static void transferIsNoRun() {
        sentence(40, "The ROWS of a QUERY become RECORDS of a TABLE");
        int q = sourceOf("1|2|3", LONG);
        x.run(x.cut(q, 1, 1), 3);
        due("transfer", x.transfer(q, 0), 3);
        dueText("the latest run", latest(x), "2");
        due("its PLAN", x.looked(1), 3);
        due("at how many it LOOKED", x.looked(0), 3);
    }

    // ---- promises 41, 42

    static void countsAtTheirMost() {
        sentence(41, "0 WORDS, 1 TABLES, 2 TESTS, 3 QUERIES, 4 KEPT RESULTS, 5 ROWS of the latest run(), 6 its COLUMNS, 7 whether a change is open (1, 0).");
        addWords(100);
        x.table(6, 0);
        x.fill(0, 50, 1, 1);
        while (x.count(1) < 6) {
            x.table(1, 0);
        }
        fillTests();
        int q = x.source(0);
        int two = x.also(q, q);
        int wide = x.join(x.also(two, two), x.cut(q, 0, 1), 0, 1);
        due("a JOIN of 12 COLUMNS", x.columns(wide), 12);
        fillQueries(0);
        for (int k = 0; k < 9; k++) {
            x.keep(0);
        }
        x.begin();
        due("run", x.run(wide, 1), 200);
        int[] want = {100, 6, 100, 40, 8, 200, 12, 1};
        for (int what = 0; what <= 7; what++) {
            due("count(" + what + ")", x.count(what), want[what]);
        }
    }

    static void countsOfWhatIsNot() {
        sentence(41, "7 whether a change is open (1, 0). BAD.");
        for (int what : new int[] {-1, 8, MIN_INT, MAX_INT}) {
            due("count(" + what + ")", x.count(what), BAD);
        }
        due("count(0)", x.count(0), 0);
        due("count(7)", x.count(7), 0);
    }

    static void clearOfAll() {
        sentence(42, "All is as at first: 1.");
        addWords(100);
        for (int t = 0; t < 6; t++) {
            x.table(1, 0);
            x.fill(t, 60, 1, 1);
        }
        fillTests();
        fillQueries(0);
        for (int k = 0; k < 8; k++) {
            x.keep(0);
        }
        x.run(0, 2);
        x.begin();
        x.put(0, 0, 0, 5);
        due("clear", x.clear(), 1);
        for (int what = 0; what <= 7; what++) {
            due("count(" + what + ")", x.count(what), 0);
        }
        due("digest", x.digest(), 7);
        due("looked(0)", x.looked(0), 0);
        due("looked(1)", x.looked(1), 0);
        due("cell", x.cell(0, 0), NO);
        due("isAbsent", x.isAbsent(0, 0), BAD);
        due("commit", x.commit(), STATE);
        due("records", x.records(0), BAD);
        due("columns", x.columns(0), BAD);
        due("kept", x.kept(0), BAD);
        due("logic", x.logic(2, 0, 0), BAD);
    }

    static void behindAClearAllBeginsAgain() {
        sentence(42, "All is as at first: 1.");
        x.word(7);
        int q = sourceOf("5|6", DAY);
        x.pair(0, 0, 0);
        x.keep(q);
        x.begin();
        x.insert(0);
        due("clear", x.clear(), 1);
        due("again", x.clear(), 1);
        due("the first WORD", x.word(8), 0);
        due("the first TABLE", x.table(1, WORD), 0);
        due("its RECORDS", x.records(0), 0);
        due("the first RECORD", x.insert(0), 0);
        due("its VALUE", x.value(0, 0, 0), NO);
        due("the only WORD", x.put(0, 0, 0, 0), 1);
        due("no second WORD", x.put(0, 0, 0, 1), BAD);
        due("the first TEST", x.compare(3, 0, 0, 0), 0);
        due("the first QUERY", x.source(0), 0);
        due("the first KEPT RESULT", x.keep(0), 0);
        due("a change", x.begin(), 1);
        x.absent(0, 0, 0);
        due("nothing of the one that was open", x.rollback(), 1);
        dueRun("its ROWS", 0, "0");
        due("a WORD that was there before", x.word(7), 1);
    }

    static void clearOfNothing() {
        sentence(42, "All is as at first: 1.");
        due("clear of a new object", x.clear(), 1);
        due("count", x.count(1), 0);
        due("begin", x.begin(), 1);
        due("clear in a change", x.clear(), 1);
        due("count", x.count(7), 0);
        due("a TABLE", x.table(1, 0), 0);
    }

    static void manyClears() {
        for (int clears = 0; clears <= 6; clears++) {
            for (int records = 0; records <= 6; records++) {
                sentence(42, "All is as at first: 1.");
                for (int i = 0; i < clears; i++) {
                    due("clear", x.clear(), 1);
                }
                int q = x.source(x.table(1, 0));
                for (int i = 0; i < records; i++) {
                    due("insert", x.insert(0), i);
                }
                due(clears + " clears, " + records + " RECORDS", x.run(q, 1), records);
                x.insert(0);
                due("and one more", x.run(q, 1), records + 1);
            }
        }
    }
}
