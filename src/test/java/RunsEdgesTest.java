/** Each sentence about MUCH, PLANS and runs that names a boundary: the Terms' parts 3 and 4, promises 27 to 33. */
public final class RunsEdgesTest extends Checks {
    public static void main(String[] args) throws IllegalAccessException {
        playAll(RunsEdgesTest.class);
    }

    /** A SOURCE of a new TABLE with so many RECORDS, one LONG each: 0, 1 .. */
    private static int sourceOf(int records) {
        int t = x.table(1, 0);
        if (records > 0) {
            x.fill(t, records, 1, 1);
        }
        for (int i = 0; i < records; i++) {
            x.put(t, i, 0, i);
        }
        return x.source(t);
    }

    /** A TEST of column 0 that is YES of each ROW. */
    private static int always() {
        int absent = x.compare(3, 0, 0, 0);
        return x.logic(1, absent, x.logic(2, absent, 0));
    }

    private static int twoHundredOf(int fifty) {
        int hundred = x.also(fifty, fifty);
        return x.also(hundred, hundred);
    }

    private static void dueEachPlan(String what, int q, int want) {
        for (int plan = 0; plan <= 3; plan++) {
            due(what + " by plan " + plan, x.run(q, plan), want);
        }
    }

    // ---- Terms: MUCH

    static void alsoOf200And201Rows() {
        sentence(0, "It is MUCH, if one that it NEEDS has more than 200 ROWS.");
        int q = twoHundredOf(sourceOf(50));
        int one = sourceOf(1);
        int more = x.also(q, one);
        dueEachPlan("200 ROWS", q, 200);
        dueEachPlan("201 ROWS", more, MUCH);
        dueEachPlan("201 ROWS, the one ahead", x.also(one, q), MUCH);
        dueEachPlan("200 ROWS, then none", x.also(q, x.cut(one, 0, 0)), 200);
        dueEachPlan("400 ROWS", x.also(q, q), MUCH);
        x.delete(1, 0);
        dueEachPlan("201 ROWS that became 200", more, 200);
        x.insert(1);
        dueEachPlan("and 201 again", more, MUCH);
    }

    static void joinByWayZeroOf200And201Rows() {
        sentence(0, "It is MUCH, if one that it NEEDS has more than 200 ROWS.");
        int fifty = sourceOf(50);
        int sixtySeven = x.also(fifty, x.cut(fifty, 0, 17));
        int three = x.cut(fifty, 0, 3);
        int every = always();
        dueEachPlan("50 times 4", x.join(fifty, x.cut(fifty, 0, 4), every, 0), 200);
        dueEachPlan("67 times 3", x.join(sixtySeven, three, every, 0), MUCH);
        dueEachPlan("3 times 67", x.join(three, sixtySeven, every, 0), MUCH);
        dueEachPlan("66 times 3", x.join(x.cut(sixtySeven, 0, 66), three, every, 0), 198);
        dueEachPlan("50 times 50", x.join(fifty, fifty, every, 0), MUCH);
        dueEachPlan("50 times 50, of which 50", x.join(fifty, fifty, x.pair(0, 0, 1), 0), 50);
        dueEachPlan("200 times 1", x.join(twoHundredOf(fifty), x.cut(fifty, 0, 1), every, 0), 200);
        dueEachPlan("1 times 200", x.join(x.cut(fifty, 0, 1), twoHundredOf(fifty), every, 0), 200);
    }

    static void joinByWayOneOf200And201Rows() {
        sentence(0, "It is MUCH, if one that it NEEDS has more than 200 ROWS.");
        int fifty = sourceOf(50);
        int all = twoHundredOf(fifty);
        int like = x.pair(0, 0, 1);
        int last = x.cut(fifty, 49, 1);
        int two = x.also(last, last);
        dueEachPlan("200 without any", x.join(all, x.cut(fifty, 0, 0), like, 1), 200);
        dueEachPlan("4 with one, 196 without any", x.join(all, last, like, 1), 200);
        dueEachPlan("4 with two, 196 without any", x.join(all, two, like, 1), MUCH);
        dueEachPlan("200 with one", x.join(all, fifty, like, 1), 200);
    }

    static void joinByWayOneAtTheEnd() {
        sentence(0, "It is MUCH, if one that it NEEDS has more than 200 ROWS.");
        int fifty = sourceOf(50);
        int others = x.where(fifty, x.compare(2, 0, LONG, 0));
        int all = x.also(x.also(others, others), x.also(others, others));
        int first = x.cut(fifty, 0, 1);
        int two = x.also(first, first);
        int like = x.pair(0, 0, 1);
        int twoFirst = x.also(two, all);
        due("196 others", x.run(all, 1), 196);
        dueEachPlan("2 with two, 196 without any", x.join(twoFirst, two, like, 1), 200);
        dueEachPlan("196 without any, 2 with two", x.join(x.also(all, two), two, like, 1), 200);
        int three = x.also(first, two);
        dueEachPlan("2 with two, 197 without any", x.join(x.also(twoFirst, x.cut(others, 0, 1)), two, like, 1), MUCH);
        dueEachPlan("1 with three, 197 without any", x.join(x.also(x.also(first, all), x.cut(others, 0, 1)), three, like, 1), 200);
        dueEachPlan("198 without any, 1 with three", x.join(x.also(x.also(all, x.cut(others, 0, 2)), first), three, like, 1), MUCH);
    }

    static void joinByWaysTwoAndThreeNeverHasMore() {
        sentence(0, "It is MUCH, if one that it NEEDS has more than 200 ROWS.");
        int fifty = sourceOf(50);
        int all = twoHundredOf(fifty);
        int every = always();
        dueEachPlan("200 with 200 each", x.join(all, all, every, 2), 200);
        dueEachPlan("none without any", x.join(all, all, every, 3), 0);
        due("they were looked at", x.looked(0), 50 + 40000);
        dueEachPlan("200 without any", x.join(all, all, x.logic(2, every, 0), 3), 200);
    }

    static void muchOfEachForm() {
        sentence(0, "A QUERY NEEDS itself and all of which it is made.");
        int fifty = sourceOf(50);
        int one = sourceOf(1);
        int much = x.also(twoHundredOf(fifty), one);
        int every = always();
        int none = x.where(fifty, x.compare(0, 0, LONG, 99));
        int g = x.group(much, 0);
        int[] all = {x.where(much, x.compare(0, 0, LONG, 99)), x.join(much, none, every, 0), x.join(none, much, every, 1),
            x.join(none, much, every, 2), x.join(much, none, every, 3), x.work(much, 11, 0, 0), x.work(much, 12, every, 0), g,
            x.collect(g, 0, 0), x.collect(x.collect(g, 0, 0), 1, 0), x.order(much, 0, true), x.once(much), x.cut(much, 0, 0),
            x.cut(much, 1000, 0), x.also(none, much), x.also(x.cut(much, 0, 1), none)};
        for (int q : all) {
            dueEachPlan("QUERY " + q, q, MUCH);
        }
        x.delete(1, 0);
        for (int q : all) {
            due("QUERY " + q + " of 200", x.run(q, 0) >= 0 ? 1 : 0, 1);
        }
    }

    static void anotherOnesMuchIsNotNeeded() {
        sentence(0, "A QUERY NEEDS itself and all of which it is made.");
        int fifty = sourceOf(50);
        int all = twoHundredOf(fifty);
        int much = x.also(all, all);
        int young = x.order(all, 0, true);
        dueEachPlan("an elder one that is not NEEDED is MUCH", young, 200);
        dueEachPlan("an elder one of which it is made", fifty, 50);
        dueEachPlan("the one that is MUCH", much, MUCH);
        dueEachPlan("and again", young, 200);
    }

    static void muchChangesNothingOfTheLatestRun() {
        sentence(27, "A QUERY is run by a PLAN .. how many ROWS. BAD; MUCH.");
        int fifty = sourceOf(50);
        int much = x.also(twoHundredOf(fifty), fifty);
        x.run(x.cut(fifty, 2, 3), 3);
        int digest = x.digest();
        due("MUCH", x.run(much, 1), MUCH);
        due("BAD", x.run(much, 4), BAD);
        dueText("the latest run", latest(x), "2|3|4");
        due("its digest", x.digest(), digest);
        due("at how many it LOOKED", x.looked(0), 50);
        due("its PLAN", x.looked(1), 3);
    }

    // ---- Terms: LOOKS

    private static void dueLooks(String what, int q, int byPairs, int byKeys, int byMerge) {
        int[] want = {byPairs, byKeys, byMerge};
        for (int plan = 1; plan <= 3; plan++) {
            due(what + " runs", x.run(q, plan) >= 0 ? 1 : 0, 1);
            due(what + " by " + plan + " LOOKED at", x.looked(0), want[plan - 1]);
            due(what + " by " + plan, x.looked(1), plan);
        }
    }

    static void looksOfSourcesAndWheres() {
        sentence(0, "SOURCE: its ROWS; WHERE: those of q");
        int none = sourceOf(0);
        int sixty = sourceOf(60);
        int few = x.where(sixty, x.compare(1, 0, LONG, 7));
        dueLooks("an empty TABLE", none, 0, 0, 0);
        dueLooks("60 RECORDS", sixty, 60, 60, 60);
        dueLooks("WHERE of none", x.where(none, 0), 0, 0, 0);
        dueLooks("WHERE of 60", few, 120, 120, 120);
        dueLooks("WHERE of 7", x.where(few, x.compare(0, 0, LONG, 99)), 127, 127, 127);
    }

    static void othersLookAtNone() {
        sentence(0, "Others at none.");
        int q = sourceOf(9);
        int g = x.group(q, 1);
        int[] all = {x.work(q, 0, 0, 0), x.work(q, 12, x.pair(0, 0, 0), 0), g, x.collect(g, 2, 0), x.order(q, 0, true), x.once(q),
            x.cut(q, 1, 1), x.also(q, q), x.cut(q, 0, 0)};
        for (int each : all) {
            dueLooks("QUERY " + each, each, 9, 9, 9);
        }
    }

    static void eachNeededQueryIsLookedAtOnce() {
        sentence(0, "LOOK at so many, each QUERY that is NEEDED once");
        int q = sourceOf(9);
        int r = x.source(0);
        int w = x.where(q, x.compare(1, 0, LONG, 4));
        dueLooks("ALSO of one QUERY", x.also(w, w), 18, 18, 18);
        dueLooks("ALSO of two SOURCES of one TABLE", x.also(q, r), 18, 18, 18);
        int j = x.join(w, w, x.pair(1, 0, 1), 0);
        dueLooks("JOIN of one QUERY", j, 18 + 16, 18 + 16, 18 + 16);
        dueLooks("ALSO of two QUERIES of it", x.also(x.order(j, 0, true), x.once(j)), 34, 34, 34);
    }

    static void looksOfAKeyedJoin() {
        sentence(0, "by KEYS those of q, of r, and the pairs of both whose VALUES in the KEY are LIKE (none of them ABSENT)");
        int q = sourceOf("1|1|2|-|-", LONG);
        int r = sourceOf("1|2|2|-", LONG);
        int like = x.pair(0, 0, 1);
        for (int way = 0; way <= 3; way++) {
            dueLooks("JOIN by " + way, x.join(q, r, like, way), 9 + 20, 9 + 9 + 4, 9 + 18 + 4);
        }
        int none = x.cut(r, 0, 0);
        dueLooks("r has none", x.join(q, none, like, 1), 9, 9 + 5, 9 + 10);
        dueLooks("q has none", x.join(none, q, like, 1), 9, 9 + 5, 9 + 10);
        dueLooks("both have none", x.join(none, none, like, 1), 4, 4, 4);
        int both = x.logic(0, like, x.compare(0, 0, LONG, 99));
        dueLooks("pairs of the KEY for which the TEST is NO", x.join(q, r, both, 0), 9 + 20, 9 + 9 + 4, 9 + 18 + 4);
    }

    static void looksAreOfEachRunAlone() {
        sentence(31, "At how many the latest run() LOOKED");
        int q = sourceOf("1|1|2", LONG);
        int j = x.join(q, q, x.pair(0, 0, 1), 2);
        dueLooks("three RECORDS", j, 3 + 9, 3 + 6 + 5, 3 + 12 + 5);
        dueLooks("again", j, 3 + 9, 3 + 6 + 5, 3 + 12 + 5);
        x.put(0, 2, 0, 1);
        dueLooks("behind a put", j, 3 + 9, 3 + 6 + 9, 3 + 12 + 9);
        x.delete(0, 0);
        dueLooks("behind a delete", j, 2 + 4, 2 + 4 + 4, 2 + 8 + 4);
        x.begin();
        x.absent(0, 1, 0);
        dueLooks("in a change", j, 2 + 4, 2 + 4 + 1, 2 + 8 + 1);
        x.rollback();
        dueLooks("behind a rollback", j, 2 + 4, 2 + 4 + 4, 2 + 8 + 4);
    }

    static void keysOfRealsAreByTheirBits() {
        sentence(0, "the pairs of both whose VALUES in the KEY are LIKE (none of them ABSENT)");
        int q = sourceOf("0|" + NO + "|" + NAN, REAL);
        int r = sourceOf("0|0|" + NAN + "|" + NAN + "|" + NAN, REAL);
        dueLooks("REALS", x.join(q, r, x.pair(0, 0, 1), 0), 8 + 15, 8 + 8 + 5, 8 + 16 + 5);
    }

    static void looksOf200Rows() {
        sentence(0, "by PAIRS those of q times those of r");
        int fifty = sourceOf(50);
        int all = twoHundredOf(fifty);
        dueLooks("200 times 200", x.join(all, all, x.pair(0, 0, 1), 2), 50 + 40000, 50 + 400 + 800, 50 + 800 + 800);
        dueLooks("200 times 200, not KEYED", x.join(all, all, x.pair(1, 0, 1), 2), 40050, 40050, 40050);
        int same = x.cut(x.where(all, x.compare(0, 0, LONG, 5)), 0, 4);
        int many = x.also(x.also(same, same), x.also(same, same));
        dueLooks("all pairs of 16 are LIKE", x.join(many, many, x.pair(0, 0, 1), 2), 250 + 256, 250 + 32 + 256, 250 + 64 + 256);
    }

    /** A TEST that is a KEY of 3 and 4 pairs LOOKS at fewer by KEYS; pairs is how many are LIKE, -1: it is none. */
    private static void dueKey(String what, int q, int r, int test, int pairs) {
        int keyed = pairs < 0 ? 7 + 12 : 7 + 7 + pairs;
        dueLooks(what, x.join(q, r, test, 2), 7 + 12, keyed, pairs < 0 ? 7 + 12 : keyed + 7);
    }

    static void whichTestsAreKeys() {
        sentence(0, "A JOIN is KEYED, if its TEST is a PAIR for LIKE (0) of a column of q with one of r (a of q, b of r, or the other way)");
        int q = sourceOf("1,5|2,5|3,5", LONG, LONG);
        int r = sourceOf("1,5|1,6|2,7|9,8", LONG, LONG);
        dueKey("first of q, first of r", q, r, x.pair(0, 0, 2), 3);
        dueKey("the other way", q, r, x.pair(0, 2, 0), 3);
        dueKey("last of q, first of r", q, r, x.pair(0, 1, 2), 0);
        dueKey("last of q, last of r", q, r, x.pair(0, 1, 3), 3);
        dueKey("last of r, last of q", q, r, x.pair(0, 3, 1), 3);
        dueKey("first of q, last of r", q, r, x.pair(0, 0, 3), 0);
        dueKey("both of q", q, r, x.pair(0, 0, 1), -1);
        dueKey("one of q twice", q, r, x.pair(0, 1, 1), -1);
        dueKey("both of r", q, r, x.pair(0, 2, 3), -1);
        dueKey("one of r twice", q, r, x.pair(0, 2, 2), -1);
        dueKey("below", q, r, x.pair(1, 0, 2), -1);
        dueKey("above", q, r, x.pair(2, 0, 2), -1);
        dueKey("COMPARE", q, r, x.compare(0, 0, LONG, 1), -1);
    }

    static void keysInBoths() {
        sentence(0, "or BOTH whose first part, or else whose second one, is such a TEST (again a PAIR, or a BOTH); that PAIR, the first one found so, is the KEY.");
        int q = sourceOf("1,5|2,5|3,5", LONG, LONG);
        int r = sourceOf("1,5|1,6|2,5|9,5", LONG, LONG);
        int key = x.pair(0, 0, 2);
        int other = x.pair(0, 3, 1);
        int no = x.pair(1, 0, 2);
        dueKey("the other one", q, r, other, 9);
        dueKey("first part", q, r, x.logic(0, key, no), 3);
        dueKey("second part", q, r, x.logic(0, no, key), 3);
        dueKey("both parts", q, r, x.logic(0, key, other), 3);
        dueKey("both parts, the other one first", q, r, x.logic(0, other, key), 9);
        dueKey("in a BOTH in the first part", q, r, x.logic(0, x.logic(0, no, other), key), 9);
        dueKey("in a BOTH in the second part", q, r, x.logic(0, no, x.logic(0, no, key)), 3);
        dueKey("the first part has none", q, r, x.logic(0, x.logic(0, no, no), other), 9);
        dueKey("EITHER", q, r, x.logic(1, key, key), -1);
        dueKey("NOT", q, r, x.logic(2, key, 0), -1);
        dueKey("NOT of NOT", q, r, x.logic(2, x.logic(2, key, 0), 0), -1);
        dueKey("EITHER in a BOTH", q, r, x.logic(0, x.logic(1, key, key), no), -1);
        dueKey("EITHER in the first part, a KEY in the second", q, r, x.logic(0, x.logic(1, key, key), other), 9);
        dueKey("neither", q, r, x.logic(0, no, no), -1);
    }

    static void theDeepestKey() {
        sentence(0, "again a PAIR, or a BOTH");
        int q = sourceOf("1|2|3", LONG);
        int r = sourceOf("1|1|2|9", LONG);
        int key = x.pair(0, 0, 1);
        int no = x.pair(1, 0, 1);
        int left = key;
        int right = key;
        for (int i = 0; i < 19; i++) {
            left = x.logic(0, left, no);
            right = x.logic(0, no, right);
        }
        due("SIZE 41", x.logic(0, left, no), FULL);
        dueKey("19 BOTHS, first parts", q, r, left, 3);
        dueKey("19 BOTHS, second parts", q, r, right, 3);
    }

    static void noKeyWithoutColumns() {
        sentence(0, "a PAIR for LIKE (0) of a column of q with one of r");
        int q = sourceOf("1,1|2,2", LONG, LONG);
        int none = x.group(q, 0);
        dueLooks("q without COLUMNS", x.join(none, q, x.pair(0, 0, 1), 0), 2 + 2, 2 + 2, 2 + 2);
        dueLooks("r without COLUMNS", x.join(q, none, x.pair(0, 0, 1), 0), 2 + 2, 2 + 2, 2 + 2);
    }

    // ---- Terms: E

    static void expectedOfASource() {
        sentence(0, "of a SOURCE how many RECORDS are there");
        int q = sourceOf(0);
        due("none", x.expected(q), 0);
        x.insert(0);
        due("one", x.expected(q), 1);
        x.fill(0, 59, 1, 1);
        due("60", x.expected(q), 60);
        x.delete(0, 0);
        due("59", x.expected(q), 59);
        x.begin();
        x.delete(0, 1);
        due("58 in a change", x.expected(q), 58);
        x.rollback();
        due("59 again", x.expected(q), 59);
    }

    static void expectedOfHalves() {
        sentence(0, "WHERE, GROUP (E + 1) / 2 of q's; .. by 2, 3 (E + 1) / 2 of q's");
        int q = sourceOf(0);
        int r = sourceOf(60);
        int test = x.pair(0, 0, 0);
        int[] halves = {x.where(q, test), x.group(q, 0), x.group(q, 1), x.join(q, r, test, 2), x.join(q, r, test, 3)};
        for (int n = 0; n <= 5; n++) {
            for (int half : halves) {
                due("half of " + n, x.expected(half), (n + 1) / 2);
            }
            x.insert(0);
        }
    }

    static void expectedOfAJoin() {
        sentence(0, "JOIN by 0, 1 the greater one of q's and r's");
        int none = sourceOf(0);
        int few = sourceOf(3);
        int more = sourceOf(5);
        int test = x.pair(0, 0, 1);
        for (int way = 0; way <= 1; way++) {
            due("0 and 0", x.expected(x.join(none, none, test, way)), 0);
            due("0 and 3", x.expected(x.join(none, few, test, way)), 3);
            due("3 and 0", x.expected(x.join(few, none, test, way)), 3);
            due("3 and 5", x.expected(x.join(few, more, test, way)), 5);
            due("5 and 3", x.expected(x.join(more, few, test, way)), 5);
            due("5 and 5", x.expected(x.join(more, more, test, way)), 5);
        }
    }

    static void expectedOfACut() {
        sentence(0, "CUT: E less skip, 0 at least, n at most");
        int q = sourceOf(5);
        int[][] each = {{0, 0, 0}, {0, 4, 4}, {0, 5, 5}, {0, 6, 5}, {0, 1000, 5}, {4, 1, 1}, {4, 2, 1}, {5, 1, 0}, {6, 1, 0},
            {1000, 1000, 0}, {2, 2, 2}, {2, 3, 3}, {2, 4, 3}};
        for (int[] c : each) {
            due("cut " + c[0] + ", " + c[1], x.expected(x.cut(q, c[0], c[1])), c[2]);
        }
    }

    static void expectedOfOthers() {
        sentence(0, "ALSO: both; others: that of q");
        int none = sourceOf(0);
        int q = sourceOf(5);
        due("0 and 0", x.expected(x.also(none, none)), 0);
        due("5 and 0", x.expected(x.also(q, none)), 5);
        due("0 and 5", x.expected(x.also(none, q)), 5);
        due("5 and 5", x.expected(x.also(q, q)), 10);
        int g = x.group(q, 1);
        due("COLLECT of a GROUP", x.expected(x.collect(g, 0, 0)), 3);
        due("COLLECT of a COLLECT", x.expected(x.collect(x.collect(g, 0, 0), 1, 0)), 3);
        due("WORK", x.expected(x.work(q, 0, 0, 0)), 5);
        due("WORK of a TEST", x.expected(x.work(q, 12, x.pair(0, 0, 0), 0)), 5);
        due("ORDER", x.expected(x.order(q, 0, true)), 5);
        due("ONCE", x.expected(x.once(q)), 5);
        due("ONCE of none", x.expected(x.once(none)), 0);
    }

    /** 19999 times a SOURCE of 50, of which E is 999950: 16384 + 2048 + 1024 + 512 + 31 times. */
    private static int nearAMillion(int fifty) {
        int power = fifty;
        int sum = fifty;
        for (int bit = 1; bit <= 14; bit++) {
            power = x.also(power, power);
            sum = (19999 >> bit & 1) == 1 ? x.also(sum, power) : sum;
        }
        return sum;
    }

    static void expectedIsAMillionAtMost() {
        sentence(0, "E is (each one 1000000 at most)");
        int near = nearAMillion(sourceOf(50));
        due("below it", x.expected(near), 999950);
        int rest = sourceOf(49);
        int one = sourceOf(1);
        int almost = x.also(near, rest);
        due("one below it", x.expected(almost), 999999);
        int just = x.also(almost, one);
        due("just it", x.expected(just), 1000000);
        due("one beyond", x.expected(x.also(just, one)), 1000000);
        due("one beyond, ahead", x.expected(x.also(one, just)), 1000000);
        int twice = x.also(just, just);
        due("twice", x.expected(twice), 1000000);
        due("four times", x.expected(x.also(twice, twice)), 1000000);
        due("half of one beyond", x.expected(x.group(x.also(just, one), 0)), 500000);
        due("half of one below", x.expected(x.group(almost, 0)), 500000);
        due("a cut", x.expected(x.cut(twice, 1000, 1000)), 1000);
    }

    // ---- Terms and promise 32: THE COST

    private static void dueCost(String what, int q, long byPairs, long byKeys, long byMerge) {
        due(what + " by PAIRS", x.cost(q, 1), byPairs);
        due(what + " by KEYS", x.cost(q, 2), byKeys);
        due(what + " by MERGE", x.cost(q, 3), byMerge);
    }

    static void costOfNone() {
        sentence(0, "THE COST of a PLAN is as it LOOKS, with E in place of ROWS, and the greater E of both in place of the pairs in a KEY.");
        int none = sourceOf(0);
        int few = sourceOf(3);
        int like = x.pair(0, 0, 1);
        dueCost("an empty TABLE", none, 0, 0, 0);
        dueCost("0 and 0", x.join(none, none, like, 0), 0, 0, 0);
        dueCost("0 and 3", x.join(none, few, like, 0), 3, 3 + 3 + 3, 3 + 6 + 3);
        dueCost("3 and 0", x.join(few, none, like, 0), 3, 3 + 3 + 3, 3 + 6 + 3);
        dueCost("3 and 0, not KEYED", x.join(few, none, x.pair(1, 0, 1), 0), 3, 3, 3);
        dueCost("3 and 3", x.join(few, few, like, 0), 3 + 9, 3 + 6 + 3, 3 + 12 + 3);
    }

    static void costIsByExpectations() {
        sentence(0, "THE COST of a PLAN is as it LOOKS, with E in place of ROWS");
        int q = sourceOf(10);
        int none = x.where(q, x.compare(0, 0, LONG, 99));
        int like = x.pair(0, 0, 1);
        int j = x.join(none, q, like, 0);
        dueCost("E of an empty WHERE is 5", j, 20 + 50, 20 + 15 + 10, 20 + 30 + 10);
        dueLooks("it LOOKS at others", j, 20, 20 + 10, 20 + 20);
        dueCost("WHERE of it", x.where(j, x.pair(0, 0, 0)), 20 + 50 + 10, 20 + 25 + 10, 20 + 40 + 10);
        dueCost("CUT, ORDER, ALSO of it", x.also(x.cut(j, 0, 1), x.order(j, 0, true)), 70, 45, 60);
        x.delete(0, 0);
        dueCost("a RECORD went", j, 18 + 45, 18 + 14 + 9, 18 + 28 + 9);
    }

    static void costOfMillions() {
        sentence(32, "THE COST of a PLAN (1 .. 3) for a QUERY. -1: BAD.");
        int many = sourceOf(60);
        for (int i = 0; i < 15; i++) {
            many = x.also(many, many);
        }
        long million = 1000000;
        int like = x.pair(0, 0, 1);
        int below = x.pair(1, 0, 1);
        dueCost("a million times a million", x.join(many, many, below, 0), 60 + million * million, 60 + million * million, 60 + million * million);
        dueCost("a million and a million", x.join(many, many, like, 0), 60 + million * million, 60 + 3 * million, 60 + 5 * million);
        int last = x.join(many, many, below, 2);
        for (int i = 0; i < 10; i++) {
            last = x.also(x.join(many, many, below, 2), last);
        }
        dueCost("eleven of them", last, 60 + 11 * million * million, 60 + 11 * million * million, 60 + 11 * million * million);
        due("it is MUCH", x.run(last, 0), MUCH);
    }

    static void costByPlans() {
        sentence(32, "THE COST of a PLAN (1 .. 3) for a QUERY. -1: BAD.");
        int q = sourceOf(3);
        for (int plan : new int[] {-1, 0, 4, MIN_INT, MAX_INT}) {
            due("plan " + plan, x.cost(q, plan), BAD);
        }
        for (int n : new int[] {-1, 1, 40, MIN_INT, MAX_INT}) {
            for (int plan = 1; plan <= 3; plan++) {
                due("QUERY " + n, x.cost(n, plan), BAD);
            }
        }
        for (int plan = 1; plan <= 3; plan++) {
            due("plan " + plan, x.cost(q, plan), 3);
        }
    }

    // ---- promise 27

    private static void dueChosen(String what, int q, int plan) {
        due(what, x.run(q, 0) >= 0 ? 1 : 0, 1);
        due(what + ", the PLAN", x.looked(1), plan);
    }

    static void theCheapestPlan() {
        sentence(27, "0: the one of the least COST, of several the least");
        int none = sourceOf(0);
        int two = sourceOf(2);
        int three = sourceOf(3);
        int four = sourceOf(4);
        int like = x.pair(0, 0, 1);
        dueChosen("a SOURCE, all the same", three, 1);
        dueChosen("0 and 0, all the same", x.join(none, none, like, 0), 1);
        dueChosen("2 and 4: 8, 10", x.join(two, four, like, 0), 1);
        dueChosen("3 and 3: 9, 9", x.join(three, three, like, 0), 1);
        due("looked by PAIRS", x.looked(0), 3 + 9);
        dueChosen("3 and 4: 12, 11", x.join(three, four, like, 0), 2);
        due("looked by KEYS", x.looked(0), 7 + 7 + 3);
        dueChosen("4 and 4, not KEYED", x.join(four, four, x.pair(1, 0, 1), 0), 1);
        dueChosen("0 and 4: 0, 8", x.join(none, four, like, 0), 1);
    }

    static void theCheapestPlanIsByCostNotByLooks() {
        sentence(27, "0: the one of the least COST, of several the least");
        int q = sourceOf(10);
        int none = x.where(q, x.compare(0, 0, LONG, 99));
        int j = x.join(none, q, x.pair(0, 0, 1), 0);
        dueChosen("KEYS are expected to be cheaper", j, 2);
        due("though they LOOKED at more than PAIRS", x.looked(0), 30);
        deleteAll(0, 1, 10);
        dueChosen("with one RECORD", j, 1);
    }

    static void runsByPlans() {
        sentence(27, "A QUERY is run by a PLAN, 0: .. : how many ROWS. BAD; MUCH.");
        int q = sourceOf(3);
        for (int plan : new int[] {-1, 4, MIN_INT, MAX_INT}) {
            due("plan " + plan, x.run(q, plan), BAD);
        }
        for (int n : new int[] {-1, 1, 40, MIN_INT, MAX_INT}) {
            due("QUERY " + n, x.run(n, 0), BAD);
        }
        due("nothing was run", x.count(5), 0);
        due("no PLAN was taken", x.looked(1), 0);
        for (int plan = 0; plan <= 3; plan++) {
            due("plan " + plan, x.run(q, plan), 3);
            due("the PLAN", x.looked(1), plan == 0 ? 1 : plan);
        }
        due("an empty one", x.run(x.cut(q, 0, 0), 0), 0);
    }

    // ---- promises 28 to 31

    static void cellsAtTheEnds() {
        sentence(28, "BITS of a VALUE of the latest run() that was not refused. NO: there is none such, or it is ABSENT.");
        int q = sourceOf("1,2|-,4|5," + NO, LONG, LONG);
        x.run(q, 1);
        due("first", x.cell(0, 0), 1);
        due("last of the first", x.cell(0, 1), 2);
        due("ABSENT", x.cell(1, 0), NO);
        due("last", x.cell(2, 1), NO);
        due("first of the last", x.cell(2, 0), 5);
        for (int n : new int[] {-1, 3, 200, MIN_INT, MAX_INT}) {
            due("row " + n, x.cell(n, 0), NO);
            due("column " + n, x.cell(0, n), NO);
        }
        due("column 2", x.cell(0, 2), NO);
        due("row -1, column 2", x.cell(-1, 2), NO);
        due("row 1, column -1", x.cell(1, -1), NO);
    }

    static void cellsOfTheLatestRun() {
        sentence(28, "BITS of a VALUE of the latest run() that was not refused.");
        int q = sourceOf("1|2|3", LONG);
        x.keep(x.order(q, 0, true));
        x.run(q, 1);
        x.put(0, 0, 0, 9);
        x.delete(0, 1);
        x.kept(0);
        x.expected(q);
        x.cost(1, 3);
        x.run(1, 7);
        x.begin();
        x.rollback();
        dueText("as it was run", latest(x), "1|2|3");
        due("a shorter one", x.run(x.cut(q, 0, 1), 1), 1);
        dueText("alone", latest(x), "9");
        due("nothing is left of the longer one", x.cell(1, 0), NO);
        due("an empty one", x.run(x.cut(q, 0, 0), 1), 0);
        due("nothing is left", x.cell(0, 0), NO);
        due("nothing is left", x.isAbsent(0, 0), BAD);
    }

    static void isAbsentAtTheEnds() {
        sentence(29, "Whether it is ABSENT (1, 0). BAD: there is none such.");
        due("nothing was run", x.isAbsent(0, 0), BAD);
        int q = sourceOf("1,-|-,4", LONG, LONG);
        x.run(q, 1);
        due("first", x.isAbsent(0, 0), 0);
        due("ABSENT", x.isAbsent(0, 1), 1);
        due("ABSENT", x.isAbsent(1, 0), 1);
        due("last", x.isAbsent(1, 1), 0);
        for (int n : new int[] {-1, 2, 12, 200, MIN_INT, MAX_INT}) {
            due("row " + n, x.isAbsent(n, 0), BAD);
            due("column " + n, x.isAbsent(0, n), BAD);
        }
        x.run(x.group(q, 0), 1);
        due("a ROW without COLUMNS", x.isAbsent(0, 0), BAD);
    }

    static void digestWithoutValues() {
        sentence(30, "7: there are none.");
        due("nothing was run", x.digest(), 7);
        int q = sourceOf("1,2", LONG, LONG);
        x.run(q, 1);
        due("two VALUES", x.digest(), 31 * (31 * 7 + 1) + 2);
        x.run(x.cut(q, 0, 0), 1);
        due("no ROWS", x.digest(), 7);
        x.run(x.group(q, 0), 1);
        due("no COLUMNS", x.digest(), 7);
    }

    static void digestOfOneValue() {
        long[][] each = {{0, 0}, {1, 1}, {-1, 0}, {NO, MIN_INT}, {MAX, MIN_INT}, {1L << 32, 1}, {0xFFFFFFFFL, -1}, {NO + 1, MIN_INT + 1},
            {0x1234567890ABCDEFL, 0x12345678 ^ 0x90ABCDEF}, {-2, 1}};
        for (long[] v : each) {
            sentence(30, "31 d and 1, if it is ABSENT, else its lower and higher 32 bits by exclusive or (wrapping)");
            x.run(sourceOf("" + v[0], LONG), 1);
            due("digest of " + v[0], x.digest(), 31 * 7 + (int) v[1]);
        }
        x.absent(0, 0, 0);
        x.run(0, 1);
        due("digest of an ABSENT one", x.digest(), 218);
    }

    static void digestWrapsAround() {
        sentence(30, "d is 7; for each VALUE of the latest run(), ROW by ROW .. (wrapping)");
        int q = sourceOf("1000000000,2000000000,3|-,4,5", LONG, LONG, LONG);
        x.run(q, 1);
        long d = 7;
        for (long v : new long[] {1000000000, 2000000000, 3, 1, 4, 5}) {
            d = Math.floorMod(31 * d + v, 1L << 32);
        }
        due("six VALUES", x.digest(), (int) d);
        int fifty = sourceOf(50);
        x.run(twoHundredOf(fifty), 1);
        d = 7;
        for (int i = 0; i < 200; i++) {
            d = Math.floorMod(31 * d + i % 50, 1L << 32);
        }
        due("200 VALUES", x.digest(), (int) d);
    }

    static void lookedWithoutARun() {
        sentence(31, "At how many the latest run() LOOKED, and the PLAN that it took: looked(0), looked(1); 0 without one. BAD.");
        due("looked(0)", x.looked(0), 0);
        due("looked(1)", x.looked(1), 0);
        int q = sourceOf(3);
        x.run(q, 4);
        x.run(1, 1);
        x.kept(x.keep(q));
        x.transfer(q, 0);
        due("looked(0), all refused or no run", x.looked(0), 0);
        due("looked(1), all refused or no run", x.looked(1), 0);
        for (int what : new int[] {-1, 2, MIN_INT, MAX_INT}) {
            due("looked(" + what + ")", x.looked(what), BAD);
        }
        x.run(q, 3);
        due("looked(0)", x.looked(0), 6);
        due("looked(1)", x.looked(1), 3);
        for (int what : new int[] {-1, 2, MIN_INT, MAX_INT}) {
            due("looked(" + what + ")", x.looked(what), BAD);
        }
    }

    static void expectedOfWhatIsNot() {
        sentence(33, "E of a QUERY. BAD.");
        int q = sourceOf(3);
        due("E", x.expected(q), 3);
        for (int n : new int[] {-1, 1, 40, MIN_INT, MAX_INT}) {
            due("expected(" + n + ")", x.expected(n), BAD);
        }
    }
}
