import java.util.Map;
import java.util.TreeMap;
import java.util.TreeSet;

/**
 * "Refusals, the first that fits: BAD (no such number, or one out of its bounds), KIND (columns, KINDS that
 * do not fit), STATE, FULL, MUCH. What is refused changes nothing." Each refusal is told as a text: what is
 * due, the call and its arguments. It is made on an object of its own, and all that the other calls show
 * behind it is compared with what they show without it.
 */
public final class RefusalsTest extends Checks {
    private static final Map<String, Integer> REFUSALS = Map.of("BAD", BAD, "KIND", KIND, "STATE", STATE, "FULL", FULL, "MUCH", MUCH);

    /** The refusals that the document names for each call; digest() and clear() have none. */
    private static final String[] DOCUMENT = {"word BAD FULL", "table BAD STATE FULL", "insert BAD FULL", "put BAD", "absent BAD",
        "delete BAD", "fill BAD FULL", "value NO", "records BAD", "compare BAD FULL", "pair BAD FULL", "logic BAD FULL", "fits BAD",
        "source BAD FULL", "where BAD KIND FULL", "join BAD KIND FULL", "work BAD KIND FULL", "group BAD FULL",
        "collect BAD KIND FULL", "order BAD FULL", "once BAD FULL", "cut BAD FULL", "also BAD KIND FULL", "columns BAD", "kind BAD",
        "run BAD MUCH", "cell NO", "isAbsent BAD", "looked BAD", "cost BAD", "expected BAD", "keep BAD FULL", "kept BAD MUCH",
        "keptCell NO", "begin STATE", "commit STATE", "rollback STATE", "transfer BAD KIND MUCH FULL", "count BAD"};

    private static final Map<String, TreeSet<String>> checked = new TreeMap<>();

    public static void main(String[] args) throws IllegalAccessException {
        playAll(RefusalsTest.class);
    }

    // ---- what all calls show

    private static String shown(Told at) {
        StringBuilder s = new StringBuilder();
        latestAndCounts(at, s);
        tables(at, s);
        queries(at, s);
        kept(at, s);
        runs(at.twin(), s);
        nextNumbers(at.twin(), s);
        ends(at, s);
        return s.toString();
    }

    private static void latestAndCounts(Told at, StringBuilder s) {
        s.append("latest ").append(latest(at)).append(" digest ").append(at.digest());
        s.append(" looked ").append(at.looked(0)).append(' ').append(at.looked(1)).append(" counts");
        for (int what = 0; what <= 7; what++) {
            s.append(' ').append(at.count(what));
        }
        s.append('\n');
    }

    private static void tables(Told at, StringBuilder s) {
        for (int t = 0; t < at.count(1); t++) {
            s.append("table ").append(t).append(" records ").append(at.records(t)).append(':');
            for (int record = 0; record < 64; record++) {
                for (int c = 0; c < 6 && (c < 2 || record < 8); c++) {
                    s.append(' ').append(at.value(t, record, c));
                }
            }
            s.append('\n');
        }
    }

    private static void queries(Told at, StringBuilder s) {
        for (int q = 0; q < at.count(3); q++) {
            s.append("query ").append(q).append(" kinds");
            for (int c = 0; c < at.columns(q); c++) {
                s.append(' ').append(at.kind(q, c));
            }
            s.append(" expected ").append(at.expected(q)).append(" cost");
            for (int plan = 1; plan <= 3; plan++) {
                s.append(' ').append(at.cost(q, plan));
            }
            s.append(" fits");
            for (int test = 0; test < at.count(2) && test < 12 && q < 8; test++) {
                s.append(' ').append(at.fits(test, q));
            }
            s.append('\n');
        }
    }

    private static void kept(Told at, StringBuilder s) {
        for (int k = 0; k < at.count(4); k++) {
            s.append("kept ").append(k).append(':').append(at.kept(k));
            for (int i = 0; i < 40; i++) {
                s.append(' ').append(at.keptCell(k, i / 5, i % 5));
            }
            s.append('\n');
        }
    }

    private static void runs(Told at, StringBuilder s) {
        for (int q = 0; q < at.count(3) && q < 24; q++) {
            s.append("run ").append(q).append(": ").append(at.run(q, 0)).append(' ').append(at.digest());
            s.append(' ').append(at.looked(0)).append(' ').append(at.looked(1)).append('\n');
        }
    }

    private static void nextNumbers(Told at, StringBuilder s) {
        for (int t = 0; t < at.count(1); t++) {
            s.append("insert ").append(at.insert(t)).append(" fill ").append(at.fill(t, 2, 5, 9)).append('\n');
        }
        s.append("word ").append(at.word(letters("qqq"))).append(' ').append(at.word(letters("a"))).append('\n');
        s.append("table ").append(at.table(1, 0)).append(" test ").append(at.pair(0, 0, 0));
        s.append(" query ").append(at.source(0)).append(" kept ").append(at.keep(0)).append('\n');
    }

    /** A change that is open may stay or be taken back; one that is not may be opened. */
    private static void ends(Told at, StringBuilder s) {
        Told stays = at.twin();
        s.append("commit ").append(stays.commit()).append('\n');
        Told back = at.twin();
        s.append("rollback ").append(back.rollback()).append('\n');
        tables(back, s);
        s.append("begin ").append(at.twin().begin()).append('\n');
    }

    // ---- refusals

    /** Each text is a refusal, the call's name and its arguments. */
    private static void refused(Told scene, String... each) {
        String before = shown(scene);
        for (String told : each) {
            String[] words = told.split(" ");
            long[] arguments = new long[words.length - 2];
            for (int i = 0; i < arguments.length; i++) {
                arguments[i] = Long.parseLong(words[i + 2]);
            }
            Told at = scene.twin();
            long want = words[0].equals("NO") ? NO : REFUSALS.get(words[0]);
            due(told, at.callForGood(words[1], arguments), want);
            String behind = shown(at);
            dueText("what is shown behind " + told, firstUnlike(behind, before), "");
            checked.computeIfAbsent(words[1], k -> new TreeSet<>()).add(words[0]);
        }
    }

    private static String firstUnlike(String behind, String before) {
        String[] one = behind.split("\n");
        String[] other = before.split("\n");
        for (int i = 0; i < one.length && i < other.length; i++) {
            if (!one[i].equals(other[i])) {
                return one[i] + " in place of " + other[i];
            }
        }
        return one.length == other.length ? "" : "another number of lines";
    }

    private static void begun(Told at) {
        due("begin", at.begin(), 1);
        due("put", at.put(0, 0, 1, 77), 1);
        due("insert", at.insert(0), 5);
        due("absent", at.absent(1, 0, 0), 1);
    }

    // ---- the scenes

    private static final int BAD_TEST = 5, SIZE_39 = 10, SIZE_40 = 11, TESTS = 13;
    private static final int SIX = 17, TWELVE = 18, GROUP_OF_TWELVE = 19, GROUP_OF_KINDS = 20, QUERIES = 21;

    /** Some of all: TABLES 0 (two LONGS), 1 (each KIND), 2 (a LONG, 50 RECORDS), 3 (six LONGS). */
    private static Told some() {
        x = new Told();
        for (String word : new String[] {"b", "ab", "a"}) {
            x.word(letters(word));
        }
        longs("1,5|5,5|6,6|-,7|5,-", 2);
        x.delete(0, 2);
        tableOf("5," + NAN + ",0,3000000,1|-,0,1,-,0|6," + NO + ",2,-5,-", LONG, REAL, WORD, DAY, TRUTH);
        x.table(1, 0);
        x.fill(2, 50, 9, 7);
        longs("1,2,3,4,5,6", 6);
        someTests();
        someQueries();
        due("keep", x.keep(8), 0);
        due("keep", x.keep(14), 1);
        due("run", x.run(4, 2) > 0 ? 1 : 0, 1);
        return x;
    }

    private static void someTests() {
        x.pair(0, 0, 1);
        x.compare(0, 0, LONG, 5);
        x.compare(3, 0, LONG, 0);
        x.logic(2, 0, 0);
        x.pair(0, 0, 2);
        due("a TEST that FITS nothing", x.pair(0, 0, 23), BAD_TEST);
        int three = x.logic(0, 0, 1);
        int seven = x.logic(1, three, three);
        int fifteen = x.logic(0, seven, seven);
        int thirtyOne = x.logic(0, fifteen, fifteen);
        due("SIZE 39", x.logic(0, thirtyOne, seven), SIZE_39);
        due("SIZE 40", x.logic(2, SIZE_39, 0), SIZE_40);
        due("a PAIR of six and six", x.pair(0, 0, 6), TESTS - 1);
    }

    private static void someQueries() {
        for (int t = 0; t < 3; t++) {
            x.source(t);
        }
        x.where(0, 1);
        x.join(0, 0, 4, 0);
        x.work(0, 0, 0, 1);
        x.group(0, 1);
        x.collect(6, 2, 1);
        x.order(1, 2, true);
        x.once(0);
        x.cut(0, 1, 2);
        x.also(0, 0);
        x.also(2, 2);
        x.also(12, 12);
        x.also(13, 2);
        x.cut(14, 0, 1);
        x.group(0, 0);
        due("six COLUMNS", x.source(3), SIX);
        due("twelve COLUMNS", x.join(SIX, SIX, TESTS - 1, 0), TWELVE);
        due("a GROUP of them", x.group(TWELVE, 4095), GROUP_OF_TWELVE);
        due("a GROUP of each KIND", x.group(1, 0), GROUP_OF_KINDS);
        due("how many", x.count(3), QUERIES);
    }

    /** The same, and nothing has room for one more: TABLE 2 has 60 RECORDS. */
    private static Told full() {
        x = some();
        for (int i = 0; x.count(0) < 100; i++) {
            x.word(letters("c" + (char) ('a' + i / 26) + (char) ('a' + i % 26)));
        }
        x.table(1, 0);
        x.table(1, 0);
        x.fill(2, 10, 1, 1);
        fillTests();
        fillQueries(0);
        while (x.count(4) < 8) {
            x.keep(0);
        }
        int[] want = {100, 6, 100, 40, 8};
        for (int what = 0; what < want.length; what++) {
            due("count(" + what + ")", x.count(what), want[what]);
        }
        return x;
    }

    private static Told open(Told scene) {
        begun(scene);
        return scene;
    }

    private static void both(String... each) {
        refused(some(), each);
        refused(open(some()), each);
    }

    private static void bothFull(String... each) {
        refused(full(), each);
        refused(open(full()), each);
    }

    static void ofWords() {
        sentence(2, "BAD: letters; FULL.");
        both("BAD word 0", "BAD word -1", "BAD word 27", "BAD word 150094635296999121", "BAD word 9223372036854775807",
            "BAD word -9223372036854775808");
        bothFull("FULL word 4", "FULL word 150094635296999120", "BAD word 0", "BAD word 150094635296999121");
    }

    static void ofTables() {
        sentence(3, "BAD: n, a KIND (others are not looked at); STATE: a change is open; FULL.");
        both("BAD table 0 0", "BAD table 7 0", "BAD table -1 0", "BAD table 1 5", "BAD table 2 40", "BAD table 6 229376");
        refused(open(some()), "STATE table 1 0", "STATE table 6 0");
        refused(full(), "FULL table 1 0", "BAD table 0 0", "BAD table 7 0", "BAD table 1 7");
        refused(open(full()), "STATE table 1 0", "BAD table 0 0", "BAD table 7 0", "BAD table 1 7");
    }

    static void ofRecords() {
        sentence(4, "BAD; FULL: 60 are there, 200 were.");
        both("BAD insert -1", "BAD insert 4", "BAD insert 6", "BAD insert 2147483647", "BAD insert -2147483648");
        bothFull("FULL insert 2", "BAD insert 6", "BAD insert -1");
    }

    static void ofPuts() {
        sentence(5, "BAD: TABLE, RECORD (also one that is not there), column, BITS that its KIND has not");
        both("BAD put -1 0 0 1", "BAD put 4 0 0 1", "BAD put 0 -1 0 1", "BAD put 0 2 0 1", "BAD put 0 6 0 1", "BAD put 0 0 -1 1",
            "BAD put 0 0 2 1", "BAD put 1 0 5 0", "BAD put 1 0 2 3", "BAD put 1 0 2 -1", "BAD put 1 0 3 3000001",
            "BAD put 1 0 3 -3000001", "BAD put 1 0 4 2", "BAD put 1 0 4 -1", "BAD put 1 3 4 2", "BAD put 0 -2147483648 0 1",
            "BAD put 2147483647 0 0 1", "BAD put 0 0 2147483647 1");
    }

    static void ofAbsentOnes() {
        sentence(6, "It becomes ABSENT: 1. BAD.");
        both("BAD absent -1 0 0", "BAD absent 4 0 0", "BAD absent 0 -1 0", "BAD absent 0 2 0", "BAD absent 0 6 0", "BAD absent 0 0 -1",
            "BAD absent 0 0 2", "BAD absent 1 0 5", "BAD absent 0 0 2147483647");
    }

    static void ofDeletes() {
        sentence(7, "A RECORD goes: how many are left. BAD.");
        both("BAD delete -1 0", "BAD delete 4 0", "BAD delete 0 -1", "BAD delete 0 2", "BAD delete 0 6", "BAD delete 0 2147483647",
            "BAD delete 0 -2147483648");
    }

    static void ofFills() {
        sentence(8, "BAD: also spread, 1 .. 1000000; FULL: not for all.");
        both("BAD fill -1 1 1 1", "BAD fill 4 1 1 1", "BAD fill 0 0 1 1", "BAD fill 0 -1 1 1", "BAD fill 0 61 1 1", "BAD fill 0 1 1 0",
            "BAD fill 0 1 1 -1", "BAD fill 0 1 1 1000001", "FULL fill 2 11 1 1", "FULL fill 2 60 1 1", "FULL fill 0 60 1 1",
            "BAD fill 2 61 1 1", "BAD fill 2 11 1 0", "BAD fill 2 11 1 1000001");
        bothFull("FULL fill 2 1 1 1", "FULL fill 2 60 1 1000000", "BAD fill 2 61 1 1", "BAD fill 2 1 1 0", "BAD fill 6 60 1 1");
    }

    static void ofValuesAndRecords() {
        sentence(9, "NO: BAD, or it is ABSENT.");
        both("NO value -1 0 0", "NO value 4 0 0", "NO value 0 -1 0", "NO value 0 2 0", "NO value 0 6 0", "NO value 0 0 -1",
            "NO value 0 0 2", "NO value 0 3 0", "BAD records -1", "BAD records 4", "BAD records 2147483647");
    }

    static void ofCompares() {
        sentence(11, "BAD: also BITS that the KIND has not; FULL.");
        String[] bad = {"BAD compare -1 0 0 0", "BAD compare 4 0 0 0", "BAD compare 0 -1 0 0", "BAD compare 0 24 0 0",
            "BAD compare 3 -1 0 0", "BAD compare 3 24 0 0", "BAD compare 0 0 -1 0", "BAD compare 0 0 5 0", "BAD compare 1 0 2 100",
            "BAD compare 2 0 3 3000001", "BAD compare 0 0 4 2"};
        both(bad);
        both("BAD compare 0 0 2 3");
        bothFull(bad);
        bothFull("FULL compare 0 0 0 0", "FULL compare 3 23 9 9");
    }

    static void ofPairs() {
        sentence(12, "BAD; FULL.");
        String[] bad = {"BAD pair -1 0 0", "BAD pair 3 0 0", "BAD pair 0 -1 0", "BAD pair 0 24 0", "BAD pair 0 0 -1", "BAD pair 0 0 24"};
        both(bad);
        bothFull(bad);
        bothFull("FULL pair 0 0 0", "FULL pair 2 23 23");
    }

    static void ofLogics() {
        sentence(13, "BAD; FULL: also the SIZE.");
        String[] bad = {"BAD logic -1 0 0", "BAD logic 3 0 0", "BAD logic 0 -1 0", "BAD logic 1 0 -1", "BAD logic 2 -1 0",
            "BAD logic 0 100 0", "BAD logic 0 0 100", "BAD logic 2 100 0", "BAD logic 3 " + SIZE_40 + " 0",
            "BAD logic 0 " + SIZE_40 + " 100", "BAD logic 1 -1 " + SIZE_40, "BAD logic -1 " + SIZE_40 + " " + SIZE_40};
        both(bad);
        both("FULL logic 2 " + SIZE_40 + " 0", "FULL logic 0 " + SIZE_39 + " 0", "FULL logic 1 0 " + SIZE_40,
            "BAD logic 0 0 " + TESTS, "BAD logic 2 " + TESTS + " 0");
        bothFull(bad);
        bothFull("FULL logic 0 0 1", "FULL logic 1 0 1", "FULL logic 2 0 -1", "FULL logic 2 " + SIZE_40 + " 0");
    }

    static void ofFits() {
        sentence(14, "Whether a TEST FITS the COLUMNS of a QUERY (1, 0). BAD.");
        both("BAD fits -1 0", "BAD fits " + TESTS + " 0", "BAD fits 0 -1", "BAD fits 0 " + QUERIES, "BAD fits 2147483647 0");
    }

    static void ofSources() {
        sentence(15, "A SOURCE: its number. BAD; FULL.");
        both("BAD source -1", "BAD source 4", "BAD source 6");
        bothFull("FULL source 0", "FULL source 5", "BAD source 6", "BAD source -1");
    }

    static void ofWheres() {
        sentence(16, "BAD; KIND: the TEST does not FIT; FULL.");
        both("BAD where -1 0", "BAD where " + QUERIES + " 0", "BAD where 0 -1", "BAD where 0 " + TESTS, "BAD where -1 5",
            "BAD where " + QUERIES + " 5", "KIND where 0 5", "KIND where 1 0", "KIND where 16 2", "KIND where 16 0");
        bothFull("FULL where 0 0", "KIND where 0 5", "KIND where 1 0", "BAD where 40 0", "BAD where 40 5", "BAD where 0 100",
            "BAD where -1 -1");
    }

    static void ofJoins() {
        sentence(17, "BAD; KIND: the TEST does not FIT, more than 12 COLUMNS (of both together, by each way); FULL.");
        both("BAD join -1 0 4 0", "BAD join " + QUERIES + " 0 4 0", "BAD join 0 -1 4 0", "BAD join 0 " + QUERIES + " 4 0",
            "BAD join 0 0 -1 0", "BAD join 0 0 " + TESTS + " 0", "BAD join 0 0 4 -1", "BAD join 0 0 4 4", "KIND join 0 0 5 0",
            "KIND join 1 0 0 0", "KIND join 18 0 4 0", "KIND join 18 0 4 1", "KIND join 18 0 4 2", "KIND join 18 0 4 3",
            "KIND join 0 18 4 2", "BAD join 0 0 5 4", "BAD join 0 0 5 -1", "BAD join 18 0 -1 0", "BAD join 18 0 4 4",
            "BAD join 18 -1 5 0", "BAD join -1 18 5 0", "KIND join 18 18 5 3");
        bothFull("FULL join 0 0 4 0", "FULL join 0 0 4 3", "KIND join 0 0 5 0", "KIND join 18 0 4 0", "KIND join 18 0 4 3",
            "BAD join 40 0 4 0", "BAD join 0 40 4 0", "BAD join 0 0 100 0", "BAD join 0 0 4 4", "BAD join 18 0 5 4");
    }

    static void ofWorks() {
        sentence(18, "BAD: q, function; a column (of 12: a TEST) that there is not; KIND: KINDS, the TEST does not FIT, a 13th COLUMN; FULL.");
        String[] bad = {"BAD work -1 0 0 0", "BAD work 40 0 0 0", "BAD work 0 -1 0 0", "BAD work 0 13 0 0", "BAD work 0 0 -1 0",
            "BAD work 0 0 2 0", "BAD work 0 0 0 -1", "BAD work 0 0 0 2", "BAD work 0 9 2 0", "BAD work 0 11 -1 0", "BAD work 0 12 -1 0",
            "BAD work 0 12 100 0", "BAD work 1 0 1 5", "BAD work 1 7 5 0", "BAD work 18 0 12 0", "BAD work 18 0 0 12",
            "BAD work 18 13 0 0", "BAD work 18 -1 0 0", "BAD work 18 12 100 0", "BAD work 18 9 12 0"};
        String[] kinds = {"KIND work 1 0 0 1", "KIND work 1 3 3 0", "KIND work 1 4 0 3", "KIND work 1 6 1 2", "KIND work 1 7 0 3",
            "KIND work 1 8 0 3", "KIND work 1 9 0 0", "KIND work 1 10 0 4", "KIND work 0 12 5 0", "KIND work 1 12 0 0",
            "KIND work 18 0 0 0", "KIND work 18 11 0 0", "KIND work 18 12 0 0", "KIND work 18 7 0 0"};
        both(bad);
        both(kinds);
        both("BAD work " + QUERIES + " 0 0 0", "BAD work 0 12 " + TESTS + " 0");
        bothFull(bad);
        bothFull(kinds);
        bothFull("FULL work 0 0 0 1", "FULL work 0 11 0 99", "FULL work 0 12 0 99", "FULL work 1 9 2 99");
    }

    static void ofGroups() {
        sentence(19, "BAD: also another bit in set; FULL.");
        String[] bad = {"BAD group -1 0", "BAD group 40 0", "BAD group 0 4", "BAD group 0 7", "BAD group 0 -1", "BAD group 0 -2147483648",
            "BAD group 16 1", "BAD group 18 4096", "BAD group 18 8191"};
        both(bad);
        both("BAD group " + QUERIES + " 0");
        bothFull(bad);
        bothFull("FULL group 0 0", "FULL group 0 3", "FULL group 18 4095");
    }

    static void ofCollects() {
        sentence(20, "BAD: q, the collector, a column that the GROUP's q has not; KIND: q is no GROUP, no COLLECT; KINDS, a 13th COLUMN; FULL.");
        String[] bad = {"BAD collect -1 0 0", "BAD collect 40 0 0", "BAD collect 6 -1 0", "BAD collect 6 11 0", "BAD collect 6 1 -1",
            "BAD collect 6 1 2", "BAD collect 7 10 2", "BAD collect 0 11 0", "BAD collect 0 -1 0", "BAD collect 19 11 0",
            "BAD collect 19 1 12", "BAD collect 19 2 -1", "BAD collect 20 2 5"};
        String[] kinds = {"KIND collect 0 0 0", "KIND collect 0 1 0", "KIND collect 8 0 0", "KIND collect 11 2 0", "KIND collect 20 2 1",
            "KIND collect 20 2 2", "KIND collect 20 9 3", "KIND collect 20 9 4", "KIND collect 19 0 0", "KIND collect 19 0 99",
            "KIND collect 19 2 11"};
        both(bad);
        both(kinds);
        both("BAD collect " + QUERIES + " 0 0");
        bothFull(bad);
        bothFull(kinds);
        bothFull("FULL collect 6 0 99", "FULL collect 7 2 1", "FULL collect 20 3 4");
    }

    static void ofOrdersOncesAndCuts() {
        sentence(21, "BAD; FULL.");
        String[] bad = {"BAD order -1 0 0", "BAD order 40 0 1", "BAD order 0 -1 0", "BAD order 0 2 1", "BAD order 16 0 0",
            "BAD once -1", "BAD once 40", "BAD cut -1 0 0", "BAD cut 40 0 0", "BAD cut 0 -1 0", "BAD cut 0 1001 0", "BAD cut 0 0 -1",
            "BAD cut 0 0 1001", "BAD cut 0 2147483647 2147483647"};
        both(bad);
        both("BAD order " + QUERIES + " 0 0", "BAD once " + QUERIES, "BAD cut " + QUERIES + " 0 0");
        bothFull(bad);
        bothFull("FULL order 0 0 0", "FULL order 0 1 1", "FULL once 0", "FULL cut 0 0 0", "FULL cut 0 1000 1000");
    }

    static void ofAlsos() {
        sentence(24, "ALSO: its number. BAD; KIND; FULL.");
        String[] both = {"BAD also -1 0", "BAD also 40 0", "BAD also 0 -1", "BAD also 0 40", "KIND also 0 1", "KIND also 0 2",
            "KIND also 2 0", "KIND also 0 16", "KIND also 16 0", "BAD also 1 40"};
        both(both);
        bothFull(both);
        both("BAD also 0 " + QUERIES, "BAD also " + QUERIES + " 0");
        bothFull("FULL also 0 0", "FULL also 0 9");
    }

    static void ofColumnsAndKinds() {
        sentence(25, "How many COLUMNS a QUERY has. BAD.");
        both("BAD columns -1", "BAD columns " + QUERIES, "BAD kind -1 0", "BAD kind " + QUERIES + " 0", "BAD kind 0 -1",
            "BAD kind 0 2", "BAD kind 16 0", "BAD kind 18 12");
    }

    static void ofRuns() {
        sentence(27, "how many ROWS. BAD; MUCH.");
        both("BAD run -1 0", "BAD run " + QUERIES + " 0", "BAD run 0 -1", "BAD run 0 4", "MUCH run 14 0", "MUCH run 14 1", "MUCH run 14 2",
            "MUCH run 14 3", "MUCH run 15 0", "BAD run 14 4", "BAD run 14 -1", "BAD run 15 4");
    }

    static void ofCells() {
        sentence(28, "NO: there is none such, or it is ABSENT.");
        both("NO cell -1 0", "NO cell 99 0", "NO cell 0 -1", "NO cell 0 4", "NO cell 2147483647 0", "BAD isAbsent -1 0",
            "BAD isAbsent 99 0", "BAD isAbsent 0 -1", "BAD isAbsent 0 4", "BAD isAbsent 0 -2147483648", "BAD looked -1", "BAD looked 2");
    }

    static void ofCosts() {
        sentence(32, "THE COST of a PLAN (1 .. 3) for a QUERY. -1: BAD.");
        both("BAD cost -1 1", "BAD cost " + QUERIES + " 1", "BAD cost 0 0", "BAD cost 0 4", "BAD cost 14 0", "BAD expected -1",
            "BAD expected " + QUERIES);
    }

    static void ofKeeping() {
        sentence(34, "(8 at most): its number. BAD; FULL.");
        both("BAD keep -1", "BAD keep " + QUERIES, "BAD kept -1", "BAD kept 2", "BAD kept 8", "MUCH kept 1", "NO keptCell -1 0 0",
            "NO keptCell 2 0 0", "NO keptCell 0 -1 0", "NO keptCell 0 3 0", "NO keptCell 0 0 -1", "NO keptCell 0 0 5", "NO keptCell 1 0 0");
        bothFull("FULL keep 0", "FULL keep 14", "BAD keep 40", "BAD keep -1", "BAD kept 8");
    }

    static void ofChanges() {
        sentence(37, "STATE: one is.");
        refused(new Told(), "STATE commit", "STATE rollback");
        refused(some(), "STATE commit", "STATE rollback");
        refused(open(some()), "STATE begin");
        refused(full(), "STATE commit", "STATE rollback");
        refused(open(full()), "STATE begin");
    }

    static void ofTransfers() {
        sentence(40, "BAD; KIND; MUCH; FULL: not for all.");
        both("BAD transfer -1 0", "BAD transfer " + QUERIES + " 0", "BAD transfer 0 -1", "BAD transfer 0 4", "KIND transfer 0 1",
            "KIND transfer 0 2", "KIND transfer 1 0", "KIND transfer 16 2", "KIND transfer 18 3", "MUCH transfer 14 2",
            "MUCH transfer 15 2", "FULL transfer 2 2", "FULL transfer 12 2", "FULL transfer 13 2", "BAD transfer 14 4", "BAD transfer 14 -1",
            "KIND transfer 14 0", "KIND transfer 15 1", "KIND transfer 13 0", "BAD transfer " + QUERIES + " 2", "BAD transfer 1 4");
        bothFull("FULL transfer 2 2", "KIND transfer 0 2", "MUCH transfer 14 2", "MUCH transfer 15 2", "KIND transfer 14 0",
            "BAD transfer 40 2", "BAD transfer 2 6");
    }

    static void ofCounts() {
        sentence(41, "7 whether a change is open (1, 0). BAD.");
        both("BAD count -1", "BAD count 8", "BAD count 2147483647", "BAD count -2147483648");
    }

    /** 200 RECORDS were in TABLE 0, of which 20 are there; in TABLE 1 there are 60 ROWS for it. */
    static void ofTheTwoHundredFirstRecord() {
        sentence(4, "FULL: 60 are there, 200 were.");
        x.table(1, 0);
        for (int from = 0; from < 180; from += 60) {
            x.fill(0, 60, 1, 1);
            deleteAll(0, from, from + 60);
        }
        x.fill(0, 20, 1, 1);
        x.table(1, 0);
        x.fill(1, 60, 1, 1);
        x.source(1);
        x.cut(0, 0, 1);
        x.run(1, 1);
        String[] each = {"FULL insert 0", "FULL fill 0 1 1 1", "FULL fill 0 40 1 1", "FULL transfer 0 0", "FULL transfer 1 0", "BAD insert 2",
            "BAD fill 0 61 1 1", "BAD put 0 0 0 1", "BAD put 0 179 0 1", "BAD put 0 200 0 1", "BAD delete 0 179", "BAD delete 0 200",
            "BAD absent 0 200 0"};
        refused(x, each);
        x.begin();
        x.delete(0, 180);
        refused(x, each);
    }

    /** On a new object each number is refused, and it stays as new. */
    static void ofANewObject() {
        sentence(1, "No WORDS, TABLES, TESTS, QUERIES; no change is open, nothing was run.");
        refused(new Told(), "BAD word 0", "BAD table 0 0", "BAD insert 0", "BAD put 0 0 0 0", "BAD absent 0 0 0", "BAD delete 0 0",
            "BAD fill 0 1 1 1", "NO value 0 0 0", "BAD records 0", "BAD compare 0 0 2 0", "BAD pair 3 0 0", "BAD logic 2 0 0",
            "BAD fits 0 0", "BAD source 0", "BAD where 0 0", "BAD join 0 0 0 0", "BAD work 0 0 0 0", "BAD group 0 0",
            "BAD collect 0 0 0", "BAD order 0 0 0", "BAD once 0", "BAD cut 0 0 0", "BAD also 0 0", "BAD columns 0", "BAD kind 0 0",
            "BAD run 0 0", "NO cell 0 0", "BAD isAbsent 0 0", "BAD looked 2", "BAD cost 0 1", "BAD expected 0", "BAD keep 0", "BAD kept 0",
            "NO keptCell 0 0 0", "BAD transfer 0 0", "BAD count 8");
    }

    /** Its name brings it to the end: all refusals that the document names were checked. */
    static void zLastEachRefusalWasChecked() {
        sentence(0, "Refusals, the first that fits");
        for (String told : DOCUMENT) {
            String[] words = told.split(" ");
            TreeSet<String> want = new TreeSet<>(java.util.List.of(words).subList(1, words.length));
            dueText("refusals of " + words[0] + "()", "" + checked.get(words[0]), "" + want);
        }
        due("calls that can be refused", checked.size(), DOCUMENT.length);
    }
}
