/** Each sentence about TESTS that names a boundary: the Terms' part 2, promises 11 to 14. */
public final class TestsEdgesTest extends Checks {
    public static void main(String[] args) throws IllegalAccessException {
        playAll(TestsEdgesTest.class);
    }

    /** What a TEST is of each ROW of a QUERY: 1 YES, 0 NO, - UNKNOWN; by WORK 12, and by WHERE of it and of its NOT. */
    private static void dueTruths(String what, int q, int test, String want) {
        int n = x.columns(q);
        dueColumn(what, x.work(q, 12, test, 0), n, want);
        int yes = 0;
        int no = 0;
        for (String each : want.split("\\|")) {
            yes += each.equals("1") ? 1 : 0;
            no += each.equals("0") ? 1 : 0;
        }
        due(what + ", ROWS of a WHERE", x.run(x.where(q, test), 1), yes);
        due(what + ", ROWS of a WHERE of its NOT", x.run(x.where(q, x.logic(2, test, 0)), 1), no);
    }

    // ---- Terms: how many, and of which

    static void testsAreAHundredAtMost() {
        String[] calls = {"compare", "compare by 3", "pair", "logic by 0", "logic by 1", "logic by 2"};
        for (String call : calls) {
            sentence(0, "TESTS (100 at most)");
            while (x.count(2) < 99) {
                x.pair(0, 0, 1);
            }
            due("the 100th by " + call, make(call), 99);
            due("the 101st by " + call, make(call), FULL);
            due("how many", x.count(2), 100);
            due("the 100th is there", x.fits(99, sourceOf("", LONG, LONG)), 1);
            due("the 101st is not", x.fits(100, 0), BAD);
        }
    }

    private static int make(String call) {
        switch (call) {
            case "compare": return x.compare(0, 0, LONG, 5);
            case "compare by 3": return x.compare(3, 0, LONG, 5);
            case "pair": return x.pair(0, 0, 1);
            case "logic by 0": return x.logic(0, 0, 1);
            case "logic by 1": return x.logic(1, 0, 1);
            default: return x.logic(2, 0, 0);
        }
    }

    static void testsAreMadeOfElderOnes() {
        sentence(0, "TESTS (100 at most) are made of elder ones");
        x.pair(0, 0, 1);
        x.pair(1, 0, 1);
        due("of the youngest one", x.logic(0, 1, 1), 2);
        due("of the one that is to come", x.logic(0, 0, 3), BAD);
        due("of it, the first part", x.logic(1, 3, 0), BAD);
        due("NOT of it", x.logic(2, 3, 0), BAD);
        due("of one below", x.logic(0, -1, 0), BAD);
        due("how many", x.count(2), 3);
    }

    // ---- Terms: COMPARE

    static void compareBesideAValue() {
        sentence(0, "COMPARE: the VALUE of a column, in ORDER, is LIKE (0), below (1), above (2) the one told");
        int q = sourceOf("4|5|6", LONG);
        dueTruths("LIKE 5", q, x.compare(0, 0, LONG, 5), "0|1|0");
        dueTruths("below 5", q, x.compare(1, 0, LONG, 5), "1|0|0");
        dueTruths("above 5", q, x.compare(2, 0, LONG, 5), "0|0|1");
    }

    static void compareAtTheEndsOfLongs() {
        sentence(0, "COMPARE: the VALUE of a column, in ORDER, is LIKE (0), below (1), above (2) the one told");
        int q = sourceOf(NO + "|" + MAX + "|0", LONG);
        dueTruths("LIKE the least", q, x.compare(0, 0, LONG, NO), "1|0|0");
        dueTruths("below the least", q, x.compare(1, 0, LONG, NO), "0|0|0");
        dueTruths("above the least", q, x.compare(2, 0, LONG, NO), "0|1|1");
        dueTruths("LIKE the greatest", q, x.compare(0, 0, LONG, MAX), "0|1|0");
        dueTruths("below the greatest", q, x.compare(1, 0, LONG, MAX), "1|0|1");
        dueTruths("above the greatest", q, x.compare(2, 0, LONG, MAX), "0|0|0");
    }

    static void compareOfAbsentOnesIsUnknown() {
        for (int kind = 0; kind <= 4; kind++) {
            sentence(0, "UNKNOWN, if it is ABSENT");
            x.word(1);
            int q = sourceOf("-|0", kind);
            dueTruths("LIKE", q, x.compare(0, 0, kind, 0), "-|1");
            dueTruths("below", q, x.compare(1, 0, kind, 0), "-|0");
            dueTruths("above", q, x.compare(2, 0, kind, 0), "-|0");
        }
    }

    static void compareByThreeIsNeverUnknown() {
        for (int kind = 0; kind <= 4; kind++) {
            sentence(0, "3: it is ABSENT (YES or NO)");
            x.word(1);
            int q = sourceOf("-|0", kind);
            dueTruths("ABSENT", q, x.compare(3, 0, LONG, 0), "1|0");
        }
    }

    // ---- Terms: PAIR

    static void pairOfAbsentOnesIsUnknown() {
        sentence(0, "PAIR: that of column a is LIKE, below, above that of column b: UNKNOWN, if one of both is ABSENT.");
        int q = sourceOf("5,5|4,5|5,4|-,5|5,-|-,-", LONG, LONG);
        dueTruths("LIKE", q, x.pair(0, 0, 1), "1|0|0|-|-|-");
        dueTruths("below", q, x.pair(1, 0, 1), "0|1|0|-|-|-");
        dueTruths("above", q, x.pair(2, 0, 1), "0|0|1|-|-|-");
    }

    static void pairOfOneColumn() {
        sentence(0, "PAIR: that of column a is LIKE, below, above that of column b: UNKNOWN, if one of both is ABSENT.");
        int q = sourceOf("5|-", LONG);
        dueTruths("LIKE itself", q, x.pair(0, 0, 0), "1|-");
        dueTruths("below itself", q, x.pair(1, 0, 0), "0|-");
        dueTruths("above itself", q, x.pair(2, 0, 0), "0|-");
    }

    static void pairOfTheEnds() {
        sentence(0, "PAIR: that of column a is LIKE, below, above that of column b");
        int q = sourceOf(NO + "," + MAX + "|" + MAX + "," + NO + "|" + NO + "," + NO, LONG, LONG);
        dueTruths("LIKE", q, x.pair(0, 0, 1), "0|0|1");
        dueTruths("below", q, x.pair(1, 0, 1), "1|0|0");
        dueTruths("above", q, x.pair(2, 0, 1), "0|1|0");
    }

    // ---- Terms: LOGIC

    /** All pairs of truths, UNKNOWN as an ABSENT one. */
    private static int truths() {
        return sourceOf("1,1|1,0|1,-|0,1|0,0|0,-|-,1|-,0|-,-", TRUTH, TRUTH);
    }

    static void bothInThreeTruths() {
        sentence(0, "0 BOTH: NO, if one is NO; else UNKNOWN, if one is; else YES.");
        int q = truths();
        int a = x.compare(0, 0, TRUTH, 1);
        int b = x.compare(0, 1, TRUTH, 1);
        dueTruths("BOTH", q, x.logic(0, a, b), "1|0|-|0|0|0|-|0|-");
        dueTruths("BOTH of one", q, x.logic(0, a, a), "1|1|1|0|0|0|-|-|-");
    }

    static void eitherInThreeTruths() {
        sentence(0, "1 EITHER: YES, if one is YES; else UNKNOWN, if one is; else NO.");
        int q = truths();
        int a = x.compare(0, 0, TRUTH, 1);
        int b = x.compare(0, 1, TRUTH, 1);
        dueTruths("EITHER", q, x.logic(1, a, b), "1|1|1|1|0|-|1|-|-");
        dueTruths("EITHER of one", q, x.logic(1, a, a), "1|1|1|0|0|0|-|-|-");
    }

    static void notInThreeTruths() {
        sentence(0, "2 NOT: of YES NO, of NO YES, of UNKNOWN UNKNOWN.");
        int q = truths();
        int a = x.compare(0, 0, TRUTH, 1);
        dueTruths("NOT", q, x.logic(2, a, 0), "0|0|0|1|1|1|-|-|-");
        dueTruths("NOT of NOT", q, x.logic(2, x.logic(2, a, 0), 0), "1|1|1|0|0|0|-|-|-");
    }

    // ---- Terms: SIZE

    static void sizeFortyOfNots() {
        sentence(0, "SIZE: of COMPARE, PAIR 1, of LOGIC one more than those of its parts together; 40 at most.");
        int[] first = {x.compare(0, 0, LONG, 5), x.compare(3, 0, LONG, 5), x.pair(0, 0, 0)};
        for (int one : first) {
            Told at = x.twin();
            int test = one;
            for (int size = 2; size <= 40; size++) {
                test = at.logic(2, test, 0);
                due("SIZE " + size, test, size + 1);
            }
            due("SIZE 41", at.logic(2, test, 0), FULL);
            due("how many", at.count(2), 42);
        }
    }

    static void sizeFortyOfTwoParts() {
        for (int way = 0; way <= 1; way++) {
            sentence(0, "SIZE: of COMPARE, PAIR 1, of LOGIC one more than those of its parts together; 40 at most.");
            int one = x.pair(0, 0, 0);
            int two = x.logic(2, one, 0);
            int test = one;
            for (int size = 3; size <= 39; size += 2) {
                test = x.logic(way, test, one);
                due("SIZE " + size, test, (size + 1) / 2);
            }
            due("SIZE 39 and 1", x.logic(way, test, one), FULL);
            due("SIZE 1 and 39", x.logic(way, one, test), FULL);
            due("SIZE 39 and 39", x.logic(way, test, test), FULL);
            due("SIZE 37 and 2", x.logic(way, test - 1, two), 21);
            due("SIZE 40 and 1", x.logic(way, 21, one), FULL);
            due("NOT of SIZE 40", x.logic(2, 21, 0), FULL);
            due("NOT of SIZE 39", x.logic(2, test, 0), 22);
        }
    }

    static void aPartThatComesTwiceCountsTwice() {
        sentence(0, "SIZE: .. of LOGIC one more than those of its parts together");
        int test = x.pair(0, 0, 0);
        for (int size = 3; size <= 31; size = 2 * size + 1) {
            test = x.logic(0, test, test);
            due("SIZE " + size + " is taken", test, x.count(2) - 1);
        }
        due("SIZE 63", x.logic(0, test, test), FULL);
        due("SIZE 63 by EITHER", x.logic(1, test, test), FULL);
        due("SIZE 32", x.logic(2, test, 0), 5);
    }

    static void testsOfSizeFortyAnswer() {
        sentence(0, "SIZE .. 40 at most.");
        int q = sourceOf("5|6|-", LONG);
        int five = x.compare(0, 0, LONG, 5);
        int test = five;
        for (int i = 0; i < 39; i++) {
            test = x.logic(2, test, 0);
        }
        due("it FITS", x.fits(test, q), 1);
        dueColumn("39 NOTS", x.work(q, 12, test, 0), 1, "0|1|-");
        dueRun("39 NOTS", x.where(q, test), "6");
        int left = five;
        int right = five;
        for (int i = 0; i < 19; i++) {
            left = x.logic(0, left, five);
            right = x.logic(1, five, right);
        }
        dueColumn("19 BOTHS, one in the first part of the next", x.work(q, 12, left, 0), 1, "1|0|-");
        dueColumn("19 EITHERS, one in the second part of the next", x.work(q, 12, right, 0), 1, "1|0|-");
    }

    static void joinsByTestsOfSizeForty() {
        sentence(0, "SIZE .. 40 at most.");
        int q = sourceOf("5|6|-", LONG);
        int like = x.pair(0, 0, 1);
        int nots = like;
        for (int i = 0; i < 39; i++) {
            nots = x.logic(2, nots, 0);
        }
        String[] want = {"5,6|6,5", "5,6|6,5|-,-", "5|6", "-"};
        for (int way = 0; way <= 3; way++) {
            due("39 NOTS by " + way, x.join(q, q, nots, way), 1 + way);
            dueRun("39 NOTS by " + way, 1 + way, want[way]);
        }
        int chain = like;
        for (int i = 0; i < 37; i++) {
            chain = x.logic(2, chain, 0);
        }
        // NOT an odd number of times, BOTH with the NOT of it: never YES; EITHER: YES or UNKNOWN.
        dueRun("BOTH of 1 and 38", x.join(q, q, x.logic(0, like, chain), 2), "");
        dueRun("EITHER of 38 and 1", x.join(q, q, x.logic(1, chain, like), 2), "5|6");
    }

    // ---- Terms and promise 14: FITS

    static void testsFitColumnsThatAreThere() {
        sentence(0, "A TEST FITS some columns, if all that it names are there");
        int q = sourceOf("", LONG, LONG, LONG);
        int[] fit = {x.compare(0, 2, LONG, 0), x.compare(3, 2, LONG, 0), x.pair(0, 2, 0), x.pair(0, 0, 2)};
        for (int test : fit) {
            due("the last column", x.fits(test, q), 1);
        }
        int[] not = {x.compare(0, 3, LONG, 0), x.compare(3, 3, LONG, 0), x.pair(0, 3, 0), x.pair(0, 0, 3), x.pair(0, 3, 3),
            x.compare(3, 23, LONG, 0), x.pair(0, 23, 0)};
        for (int test : not) {
            due("a column behind it", x.fits(test, q), 0);
            due("in a NOT", x.fits(x.logic(2, test, 0), q), 0);
            due("in the first part", x.fits(x.logic(0, test, 0), q), 0);
            due("in the second part", x.fits(x.logic(1, 0, test), q), 0);
        }
        due("in no part", x.fits(x.logic(1, 0, 1), q), 1);
    }

    static void testsFitTwelveColumns() {
        sentence(0, "A TEST FITS some columns, if all that it names are there");
        int six = sourceOf("", LONG, LONG, LONG, LONG, LONG, LONG);
        int twelve = x.join(six, six, x.pair(0, 0, 6), 0);
        due("column 11", x.fits(x.compare(0, 11, LONG, 0), twelve), 1);
        due("columns 11 and 0", x.fits(x.pair(1, 11, 0), twelve), 1);
        due("column 12", x.fits(x.compare(0, 12, LONG, 0), twelve), 0);
        due("columns 0 and 12", x.fits(x.pair(1, 0, 12), twelve), 0);
    }

    static void nothingFitsNoColumns() {
        sentence(0, "A TEST FITS some columns, if all that it names are there");
        int none = x.group(sourceOf("5", LONG), 0);
        due("COMPARE", x.fits(x.compare(0, 0, LONG, 0), none), 0);
        due("COMPARE by 3", x.fits(x.compare(3, 0, LONG, 0), none), 0);
        due("PAIR", x.fits(x.pair(0, 0, 0), none), 0);
        due("NOT", x.fits(x.logic(2, 0, 0), none), 0);
    }

    static void testsFitColumnsOfTheirKind() {
        sentence(0, "those of COMPARE 0 to 2 are of its KIND, both of a PAIR of one");
        x.word(1);
        int q = sourceOf("", LONG, REAL, WORD, DAY, TRUTH);
        for (int c = 0; c < 5; c++) {
            for (int kind = 0; kind < 5; kind++) {
                Told at = x.twin();
                for (int code = 0; code <= 2; code++) {
                    due("COMPARE by " + code + " of " + kind, at.fits(at.compare(code, c, kind, 0), q), c == kind ? 1 : 0);
                    due("PAIR by " + code, at.fits(at.pair(code, c, kind), q), c == kind ? 1 : 0);
                }
                due("COMPARE by 3", at.fits(at.compare(3, c, kind, 0), q), 1);
            }
        }
    }

    static void fitsOfWhatIsNot() {
        sentence(14, "Whether a TEST FITS the COLUMNS of a QUERY (1, 0). BAD.");
        int q = sourceOf("", LONG);
        int test = x.pair(0, 0, 0);
        due("it FITS", x.fits(test, q), 1);
        for (int n : new int[] {-1, 1, 40, 100, MIN_INT, MAX_INT}) {
            due("TEST " + n, x.fits(n, q), BAD);
            due("QUERY " + n, x.fits(test, n), BAD);
        }
    }

    // ---- promises 11 to 13

    static void compareByCodes() {
        sentence(11, "COMPARE by code 0 .. 3 of a column (0 .. 23) with a VALUE");
        for (int code = 0; code <= 3; code++) {
            due("code " + code, x.compare(code, 0, LONG, 0), code);
        }
        for (int code : new int[] {-1, 4, MIN_INT, MAX_INT}) {
            due("code " + code, x.compare(code, 0, LONG, 0), BAD);
        }
    }

    static void compareOfColumns() {
        sentence(11, "COMPARE by code 0 .. 3 of a column (0 .. 23) with a VALUE");
        for (int code = 0; code <= 3; code++) {
            due("column 0 by " + code, x.compare(code, 0, LONG, 0), 2 * code);
            due("column 23 by " + code, x.compare(code, 23, LONG, 0), 2 * code + 1);
            for (int column : new int[] {-1, 24, MIN_INT, MAX_INT}) {
                due("column " + column + " by " + code, x.compare(code, column, LONG, 0), BAD);
            }
        }
    }

    static void compareOfKinds() {
        sentence(11, "BAD: also BITS that the KIND has not");
        x.word(1);
        for (int code = 0; code <= 2; code++) {
            for (int kind = 0; kind <= 4; kind++) {
                due("KIND " + kind + " by " + code, x.compare(code, 0, kind, 0), 5 * code + kind);
            }
            for (int kind : new int[] {-1, 5, 7, 8, MIN_INT, MAX_INT}) {
                due("KIND " + kind + " by " + code, x.compare(code, 0, kind, 0), BAD);
            }
        }
    }

    static void compareByThreeLooksAtNoValue() {
        sentence(11, "by 3 kind and bits are not looked at");
        int q = sourceOf("-,5|5,-", LONG, DAY);
        int n = 0;
        for (int kind : new int[] {-1, 0, 2, 3, 4, 5, MIN_INT, MAX_INT}) {
            int test = x.compare(3, 0, kind, kind == 0 ? 0 : NO);
            due("KIND " + kind, test, n++);
            due("it FITS a LONG", x.fits(test, q), 1);
        }
        dueRun("the last one", x.where(q, n - 1), "-,5");
    }

    static void aWordOfACompareMustBeThere() {
        sentence(11, "BAD: also BITS that the KIND has not");
        due("no WORDS", x.compare(0, 0, WORD, 0), BAD);
        x.word(1);
        due("the first one", x.compare(0, 0, WORD, 0), 0);
        due("the second one", x.compare(0, 0, WORD, 1), BAD);
        x.word(2);
        due("the second one", x.compare(0, 0, WORD, 1), 1);
    }

    static void pairByCodes() {
        sentence(12, "PAIR by code 0 .. 2 of two columns (0 .. 23): its number. BAD; FULL.");
        for (int code = 0; code <= 2; code++) {
            due("code " + code, x.pair(code, 0, 0), code);
        }
        for (int code : new int[] {-1, 3, MIN_INT, MAX_INT}) {
            due("code " + code, x.pair(code, 0, 0), BAD);
        }
    }

    static void pairOfColumns() {
        sentence(12, "PAIR by code 0 .. 2 of two columns (0 .. 23): its number. BAD; FULL.");
        due("0 and 23", x.pair(0, 0, 23), 0);
        due("23 and 0", x.pair(1, 23, 0), 1);
        due("23 and 23", x.pair(2, 23, 23), 2);
        for (int column : new int[] {-1, 24, MIN_INT, MAX_INT}) {
            due("a " + column, x.pair(0, column, 0), BAD);
            due("b " + column, x.pair(0, 0, column), BAD);
        }
        due("how many", x.count(2), 3);
    }

    static void logicByWays() {
        sentence(13, "LOGIC by way 0 .. 2 of TESTS (b is not looked at by 2): its number.");
        x.pair(0, 0, 0);
        for (int way = 0; way <= 2; way++) {
            due("way " + way, x.logic(way, 0, 0), way + 1);
        }
        for (int way : new int[] {-1, 3, MIN_INT, MAX_INT}) {
            due("way " + way, x.logic(way, 0, 0), BAD);
        }
    }

    static void logicOfTests() {
        sentence(13, "LOGIC by way 0 .. 2 of TESTS (b is not looked at by 2): its number.");
        x.pair(0, 0, 0);
        for (int n : new int[] {-1, 1, 100, MIN_INT, MAX_INT}) {
            for (int way = 0; way <= 1; way++) {
                due("a " + n + " by " + way, x.logic(way, n, 0), BAD);
                due("b " + n + " by " + way, x.logic(way, 0, n), BAD);
            }
            due("a " + n + " by 2", x.logic(2, n, 0), BAD);
        }
        int made = 1;
        for (int n : new int[] {-1, 100, MIN_INT, MAX_INT}) {
            due("b " + n + " by 2", x.logic(2, 0, n), made++);
        }
    }

    static void logicOfHundredTestsAndOfSize() {
        sentence(13, "BAD; FULL: also the SIZE.");
        int test = x.pair(0, 0, 0);
        for (int i = 0; i < 39; i++) {
            test = x.logic(2, test, 0);
        }
        due("SIZE 41, among 40 TESTS", x.logic(2, test, 0), FULL);
        due("a part that is not, SIZE beyond 40", x.logic(0, test, 40), BAD);
        fillTests();
        due("SIZE 2, among 100 TESTS", x.logic(2, 0, 0), FULL);
        due("SIZE 41, among 100 TESTS", x.logic(2, test, 0), FULL);
        due("a part that is not, among 100 TESTS", x.logic(2, 100, 0), BAD);
        due("how many", x.count(2), 100);
    }
}
