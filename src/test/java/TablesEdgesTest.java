import java.math.BigInteger;

/** Each sentence about VALUES, WORDS, TABLES and RECORDS that names a boundary: the Terms' part 1, promises 1 to 10. */
public final class TablesEdgesTest extends Checks {
    private static final long LAST_WORD = letters("zzzzzzzzzzzz");

    public static void main(String[] args) throws IllegalAccessException {
        playAll(TablesEdgesTest.class);
    }

    // ---- promise 1

    static void aNewObjectHasNothing() {
        sentence(1, "No WORDS, TABLES, TESTS, QUERIES; no change is open, nothing was run.");
        for (int what = 0; what <= 7; what++) {
            due("count(" + what + ")", x.count(what), 0);
        }
        due("commit()", x.commit(), STATE);
        due("rollback()", x.rollback(), STATE);
        due("looked(0)", x.looked(0), 0);
        due("looked(1)", x.looked(1), 0);
        due("digest()", x.digest(), 7);
        due("cell(0, 0)", x.cell(0, 0), NO);
        due("isAbsent(0, 0)", x.isAbsent(0, 0), BAD);
    }

    static void aNewObjectHasNoNumberZero() {
        sentence(1, "No WORDS, TABLES, TESTS, QUERIES; no change is open, nothing was run.");
        due("no WORD", x.compare(0, 0, WORD, 0), BAD);
        due("insert", x.insert(0), BAD);
        due("put", x.put(0, 0, 0, 0), BAD);
        due("absent", x.absent(0, 0, 0), BAD);
        due("delete", x.delete(0, 0), BAD);
        due("fill", x.fill(0, 1, 1, 1), BAD);
        due("value", x.value(0, 0, 0), NO);
        due("records", x.records(0), BAD);
        due("logic", x.logic(2, 0, 0), BAD);
        due("fits", x.fits(0, 0), BAD);
        due("source", x.source(0), BAD);
        due("where", x.where(0, 0), BAD);
        due("join", x.join(0, 0, 0, 0), BAD);
        due("work", x.work(0, 0, 0, 0), BAD);
        due("group", x.group(0, 0), BAD);
        due("collect", x.collect(0, 0, 0), BAD);
        due("order", x.order(0, 0, false), BAD);
        due("once", x.once(0), BAD);
        due("cut", x.cut(0, 0, 0), BAD);
        due("also", x.also(0, 0), BAD);
        due("columns", x.columns(0), BAD);
        due("kind", x.kind(0, 0), BAD);
        due("run", x.run(0, 0), BAD);
        due("cost", x.cost(0, 1), BAD);
        due("expected", x.expected(0), BAD);
        due("keep", x.keep(0), BAD);
        due("kept", x.kept(0), BAD);
        due("keptCell", x.keptCell(0, 0, 0), NO);
        due("transfer", x.transfer(0, 0), BAD);
    }

    static void aNewObjectSharesNothing() {
        sentence(1, "No WORDS, TABLES, TESTS, QUERIES; no change is open, nothing was run.");
        x.word(1);
        x.keep(sourceOf("5", LONG));
        x.pair(0, 0, 0);
        x.run(0, 1);
        x.begin();
        Told other = new Told();
        for (int what = 0; what <= 7; what++) {
            due("count(" + what + ") of another object", other.count(what), 0);
        }
        due("digest() of another object", other.digest(), 7);
        due("the first WORD of another object", other.word(2), 0);
    }

    // ---- Terms: KINDS

    /** BITS that a KIND has, and what they become; then BITS that it has not: by put() and by compare(). */
    private static void dueBits(int kind, long[][] taken, long... refused) {
        int q = sourceOf("-", kind);
        for (long[] each : taken) {
            due("put() of " + each[0], x.put(0, 0, 0, each[0]), 1);
            due("value() behind it", x.value(0, 0, 0), each[1]);
            int test = x.compare(0, 0, kind, each[0]);
            due("compare() with " + each[0], test, x.count(2) - 1);
            due("fits", x.fits(test, q), 1);
            Told at = x.twin();
            at.run(at.where(q, test), 1);
            due("the VALUE is LIKE " + each[0], at.count(5), 1);
            due("the cell behind it", at.cell(0, 0), each[1]);
        }
        long last = x.value(0, 0, 0);
        int tests = x.count(2);
        for (long bits : refused) {
            due("put() of " + bits, x.put(0, 0, 0, bits), BAD);
            due("value() behind it", x.value(0, 0, 0), last);
            for (int code = 0; code <= 2; code++) {
                due("compare() by " + code + " with " + bits, x.compare(code, 0, kind, bits), BAD);
            }
            due("compare() by 3, where bits are not looked at", x.twin().compare(3, 0, kind, bits), tests);
        }
    }

    static void longsAreAllLongs() {
        sentence(0, "0 LONG");
        dueBits(LONG, new long[][] {{0, 0}, {-1, -1}, {MAX, MAX}, {NO + 1, NO + 1}, {NO, NO}});
    }

    static void realsAreAllBits() {
        sentence(0, "1 REAL, told by a double's bits (those of each not-a-number count as 9221120237041090560)");
        long infinite = 0x7FF0000000000000L, low = 0xFFF0000000000000L;
        dueBits(REAL, new long[][] {{0, 0}, {NO, NO}, {1, 1}, {infinite - 1, infinite - 1}, {infinite, infinite},
            {infinite + 1, NAN}, {NAN - 1, NAN}, {NAN, NAN}, {NAN + 1, NAN}, {MAX, NAN}, {low - 1, low - 1}, {low, low},
            {low + 1, NAN}, {0xFFF8000000000000L, NAN}, {-1, NAN}});
    }

    static void notANumbersAreOne() {
        sentence(0, "those of each not-a-number count as 9221120237041090560");
        int q = sourceOf("-1|" + MAX + "|" + NAN + "|9218868437227405313|-4503599627370495", REAL);
        dueRun("a GROUP of them", x.collect(x.group(q, 1), 0, 0), NAN + ",5");
        dueRun("each one once", x.once(q), "" + NAN);
        due("a JOIN of them", x.run(x.join(q, q, x.pair(0, 0, 1), 0), 2), 25);
        due("above the greatest number", x.run(x.where(q, x.compare(2, 0, REAL, 9218868437227405312L)), 1), 5);
    }

    static void withoutWordsThereIsNoNumber() {
        sentence(0, "2 WORD (its number)");
        dueBits(WORD, new long[][] {}, 0, -1, 1);
    }

    static void oneWordIsNumberZero() {
        sentence(0, "2 WORD (its number)");
        x.word(26);
        dueBits(WORD, new long[][] {{0, 0}}, 1, -1, 26, 1L << 32, NO, MAX);
    }

    static void hundredWordsEndWithNumber99() {
        sentence(0, "2 WORD (its number)");
        addWords(100);
        dueBits(WORD, new long[][] {{0, 0}, {99, 99}}, 100, -1, (1L << 32) + 99, NO, MAX);
    }

    static void daysEndAtThreeMillion() {
        sentence(0, "3 DAY (-3000000 .. 3000000)");
        dueBits(DAY, new long[][] {{-3000000, -3000000}, {0, 0}, {3000000, 3000000}},
            -3000001, 3000001, 1L << 32, (1L << 32) - 1, NO, MAX);
    }

    static void truthsAreTwo() {
        sentence(0, "4 TRUTH (0, 1)");
        dueBits(TRUTH, new long[][] {{0, 0}, {1, 1}}, -1, 2, 1L << 32, (1L << 32) + 1, NO, MAX);
    }

    // ---- Terms: ORDER

    /** VALUES of a KIND that are told upwards, no multiple of 7: in a TABLE they come in another order. */
    private static void dueOrder(int kind, long... upwards) {
        int n = upwards.length;
        long[] mixed = new long[n];
        for (int i = 0; i < n; i++) {
            mixed[i] = upwards[(i * 7 + 3) % n];
        }
        int q = sourceOf(rowsOf(mixed) + "|-", kind);
        StringBuilder down = new StringBuilder();
        for (int i = n - 1; i >= 0; i--) {
            down.append(upwards[i]).append('|');
        }
        dueRun("upwards", x.order(q, 0, false), rowsOf(upwards) + "|-");
        dueRun("down", x.order(q, 0, true), down + "-");
        int all = x.group(q, 0);
        dueRun("the least", x.collect(all, 3, 0), "" + upwards[0]);
        dueRun("the greatest", x.collect(all, 4, 0), "" + upwards[n - 1]);
        dueRun("the middle one", x.collect(all, 8, 0), "" + upwards[(n - 1) / 2]);
        dueRun("the least one of those that come once", x.collect(all, 10, 0), "" + upwards[0]);
        dueRun("unlike ones", x.collect(all, 5, 0), "" + n);
        int below = x.join(q, q, x.pair(1, 0, 1), 0);
        due("pairs, one below the other", x.run(below, 1), n * (n - 1) / 2);
        due("pairs, one above the other", x.run(x.join(q, q, x.pair(2, 0, 1), 0), 1), n * (n - 1) / 2);
        due("pairs of like ones", x.run(x.join(q, q, x.pair(0, 0, 1), 0), 1), n);
        due("the lesser of them is the first", x.run(x.where(x.work(below, 4, 0, 1), x.pair(0, 0, 2)), 1), n * (n - 1) / 2);
        due("the greater of them is the second", x.run(x.where(x.work(below, 5, 0, 1), x.pair(0, 1, 2)), 1), n * (n - 1) / 2);
        int sorted = x.order(q, 0, false);
        for (int i = 0; i < n; i++) {
            Told at = x.twin();
            due("below " + upwards[i], at.run(at.where(sorted, at.compare(1, 0, kind, upwards[i])), 1), i);
            due("the first of them", at.cell(0, 0), i == 0 ? NO : upwards[0]);
            due("above " + upwards[i], at.run(at.where(sorted, at.compare(2, 0, kind, upwards[i])), 1), n - 1 - i);
            due("the last of them", at.cell(n - 2 - i, 0), i == n - 1 ? NO : upwards[n - 1]);
            due("LIKE " + upwards[i], at.run(at.where(sorted, at.compare(0, 0, kind, upwards[i])), 1), 1);
            due("that one", at.cell(0, 0), upwards[i]);
        }
    }

    static void longsAreByNumber() {
        sentence(0, "LONG, DAY, TRUTH by number");
        // The difference of the ends is beyond a long, and the lower 32 bits tell another order.
        dueOrder(LONG, NO, NO + 1, -(1L << 32), -1, 0, 1, (1L << 31), (1L << 32), MAX - 1, MAX);
    }

    static void daysAreByNumber() {
        sentence(0, "LONG, DAY, TRUTH by number");
        dueOrder(DAY, -3000000, -2999999, -1, 0, 1, 2, 2999999, 3000000);
    }

    static void truthsAreByNumber() {
        sentence(0, "LONG, DAY, TRUTH by number");
        dueOrder(TRUTH, 0, 1);
    }

    static void realsAreAsDoubles() {
        sentence(0, "REAL as doubles, -0.0 below 0.0, the not-a-number above all");
        dueOrder(REAL, real(Double.NEGATIVE_INFINITY), real(-Double.MAX_VALUE), real(-1.5), real(-Double.MIN_VALUE), real(-0.0),
            real(0.0), real(Double.MIN_VALUE), real(1.5), real(Double.MAX_VALUE), real(Double.POSITIVE_INFINITY), NAN);
    }

    static void wordsAreByLetters() {
        sentence(0, "WORDS by letters, one that begins another one below that");
        String[] upwards = {"a", "aa", "aaaaaaaaaaaa", "aaz", "ab", "az", "b", "ba", "bz", "z", "zzzzzzzzzzzy", "zzzzzzzzzzzz"};
        // They come the other way, so that their numbers do not tell their ORDER.
        long[] numbers = new long[upwards.length];
        for (int i = upwards.length - 1; i >= 0; i--) {
            numbers[i] = x.word(letters(upwards[i]));
        }
        dueOrder(WORD, numbers);
    }

    static void likeAreThoseOfTheSameBits() {
        sentence(0, "LIKE are those of the same BITS.");
        int q = sourceOf("0|" + NO + "|0", REAL);
        dueRun("LIKE 0.0", x.where(q, x.compare(0, 0, REAL, 0)), "0|0");
        dueRun("LIKE -0.0", x.where(q, x.compare(0, 0, REAL, NO)), "" + NO);
        dueRun("once", x.once(q), "0|" + NO);
        dueRun("groups", x.collect(x.group(q, 1), 0, 0), "0,2|" + NO + ",1");
        dueRun("unlike ones", x.collect(x.group(q, 0), 5, 0), "2");
        due("a JOIN", x.run(x.join(q, q, x.pair(0, 0, 1), 0), 2), 5);
        due("its KEY's pairs", x.looked(0), 3 + 6 + 5);
        int both = x.join(x.cut(q, 0, 1), x.cut(q, 1, 1), x.pair(2, 0, 1), 0);
        dueRun("0.0 and -0.0 are not LIKE", x.work(both, 10, 0, 1), "0," + NO + ",0");
    }

    // ---- Terms and promise 2: WORDS

    static void wordsAreNumberedAsTheyCome() {
        sentence(0, "WORDS are numbered from 0 as they come, 100 at most.");
        for (int i = 0; i < 100; i++) {
            due("WORD number " + i, x.word(letters("" + (char) ('z' - i % 26) + (char) ('a' + i / 26))), i);
        }
        due("one more", x.word(letters("q")), FULL);
        due("how many", x.count(0), 100);
    }

    static void aWordThatIsThereIsNeverFull() {
        sentence(2, "A WORD: its number (the same for the same letters). BAD: letters; FULL.");
        addWords(99);
        due("the same as the first", x.word(letters("baa")), 0);
        due("how many", x.count(0), 99);
        due("the last one", x.word(letters("a")), 99);
        due("the 101st", x.word(letters("aa")), FULL);
        due("the last one again", x.word(letters("a")), 99);
        due("the first one again", x.word(letters("baa")), 0);
        due("no letters and full", x.word(0), BAD);
    }

    static void wordsOfOneLetter() {
        sentence(0, "A WORD of 1 to 12 letters (1 .. 26 each) is told by a long");
        due("no letter", x.word(0), BAD);
        for (int letter = 1; letter <= 26; letter++) {
            due("letter " + letter, x.word(letter), letter - 1);
        }
        due("letter 27", x.word(27), BAD);
        due("how many", x.count(0), 26);
    }

    static void wordsOfSeveralLetters() {
        sentence(0, "A WORD of 1 to 12 letters (1 .. 26 each) is told by a long");
        due("aa", x.word(28), 0);
        due("zz", x.word(27 * 26 + 26), 1);
        due("an empty last letter", x.word(27 * 26), BAD);
        due("two empty ones behind", x.word(27 * 27), BAD);
        due("an empty one inside", x.word(27 * 27 + 1), BAD);
        due("below zero", x.word(-28), BAD);
        due("aaa", x.word(27 * 27 + 28), 2);
    }

    static void wordsOfTwelveLetters() {
        sentence(0, "A WORD of 1 to 12 letters (1 .. 26 each) is told by a long");
        due("the least one", x.word(letters("aaaaaaaaaaaa")), 0);
        due("one less", x.word(letters("aaaaaaaaaaaa") - 1), BAD);
        due("the greatest one", x.word(LAST_WORD), 1);
        due("one more", x.word(LAST_WORD + 1), BAD);
        due("the least one of 13", x.word(letters("aaaaaaaaaaaaa")), BAD);
        due("the greatest one of 13", x.word(letters("zzzzzzzzzzzzz")), BAD);
        due("the greatest long", x.word(MAX), BAD);
        due("the least long", x.word(NO), BAD);
        due("an empty letter in the middle of 12", x.word(LAST_WORD - 26 * 387420489L), BAD);
        due("how many", x.count(0), 2);
    }

    static void theFirstLetterIsTheFirstOne() {
        sentence(0, "for each letter, the first one first: 27 times it and the letter");
        x.word(2 * 27 + 1);
        x.word(1 * 27 + 2);
        int q = sourceOf("0|1", WORD);
        dueRun("ab is below ba", x.order(q, 0, false), "1|0");
        dueRun("letters", x.work(q, 9, 0, 0), "0,2|1,2");
    }

    // ---- Terms and promise 3: TABLES

    static void tablesAreSixAtMost() {
        sentence(0, "TABLES (6 at most)");
        for (int t = 0; t < 6; t++) {
            due("TABLE number " + t, x.table(1 + t, 0), t);
        }
        due("the seventh", x.table(1, 0), FULL);
        due("how many", x.count(1), 6);
        due("insert into the last", x.insert(5), 0);
        due("insert into the one that did not come", x.insert(6), BAD);
    }

    static void tablesHaveOneToSixColumns() {
        sentence(0, "1 to 6 COLUMNS of KINDS");
        for (int n : new int[] {0, 7, -1, 13, MIN_INT, MAX_INT}) {
            due("table(" + n + ", 0)", x.table(n, 0), BAD);
        }
        due("one column", x.table(1, 0), 0);
        due("six columns", x.table(6, 0), 1);
        x.insert(0);
        x.insert(1);
        due("the only column", x.put(0, 0, 0, 1), 1);
        due("a second one", x.put(0, 0, 1, 1), BAD);
        due("the sixth column", x.put(1, 0, 5, 1), 1);
        due("a seventh one", x.put(1, 0, 6, 1), BAD);
    }

    static void eachColumnMayHaveEachKind() {
        for (int c = 0; c < 6; c++) {
            sentence(3, "column c is of KIND (kinds >> 3 c) modulo 8");
            for (int kind = 0; kind <= 4; kind++) {
                due("column " + c + " of KIND " + kind, x.table(c + 1, kind << 3 * c), kind);
                due("its QUERY", x.source(kind), kind);
                due("its KIND", x.kind(kind, c), kind);
            }
            for (int kind = 5; kind <= 7; kind++) {
                due("column " + c + " of KIND " + kind, x.table(c + 1, kind << 3 * c), BAD);
            }
            due("how many TABLES", x.count(1), 5);
        }
    }

    static void kindsBehindTheLastColumnAreNotLookedAt() {
        sentence(3, "BAD: n, a KIND (others are not looked at)");
        for (int n = 1; n <= 6; n++) {
            due(n + " columns", x.table(n, -1 << 3 * n | 4), n - 1);
            due("their QUERY", x.source(n - 1), n - 1);
            due("the first KIND", x.kind(n - 1, 0), TRUTH);
        }
        due("a KIND that is looked at", x.table(2, -1 << 3), BAD);
        due("all of them", x.table(6, -1), BAD);
    }

    static void tablesAreRefusedWhileAChangeIsOpen() {
        sentence(3, "STATE: a change is open; FULL.");
        x.table(1, 0);
        x.begin();
        due("in a change", x.table(1, 0), STATE);
        due("how many", x.count(1), 1);
        x.rollback();
        due("behind it", x.table(1, 0), 1);
    }

    // ---- Terms and promises 4 to 7: RECORDS

    static void sixtyRecordsAtOnce() {
        sentence(4, "A RECORD more: its number. BAD; FULL: 60 are there, 200 were.");
        x.table(1, 0);
        for (int i = 0; i < 60; i++) {
            due("RECORD number " + i, x.insert(0), i);
        }
        due("the 61st", x.insert(0), FULL);
        due("records", x.records(0), 60);
        due("one goes", x.delete(0, 59), 59);
        due("one more, never the same number", x.insert(0), 60);
        due("the 61st", x.insert(0), FULL);
    }

    static void anotherTableHasRoomOfItsOwn() {
        sentence(4, "FULL: 60 are there, 200 were.");
        x.table(1, 0);
        x.table(1, 0);
        x.fill(0, 60, 1, 1);
        due("the full one", x.insert(0), FULL);
        due("the other one", x.insert(1), 0);
        due("records of the other one", x.records(1), 1);
    }

    static void twoHundredRecordsEver() {
        sentence(0, "RECORDS, numbered from 0 as they come (never twice): 200 ever, 60 that are there at once.");
        x.table(1, 0);
        for (int from = 0; from < 180; from += 60) {
            due("fill", x.fill(0, 60, 1, 1), from);
            deleteAll(0, from, from + 60);
        }
        for (int record = 180; record < 200; record++) {
            due("RECORD number " + record, x.insert(0), record);
        }
        due("the 201st", x.insert(0), FULL);
        due("records", x.records(0), 20);
        due("the last one has a VALUE", x.put(0, 199, 0, 5), 1);
        due("it is told", x.value(0, 199, 0), 5);
        deleteAll(0, 180, 200);
        due("none is there", x.records(0), 0);
        due("but 200 were", x.insert(0), FULL);
        due("RECORD number 200", x.put(0, 200, 0, 5), BAD);
    }

    static void numbersNeverComeTwice() {
        sentence(0, "RECORDS, numbered from 0 as they come (never twice)");
        x.table(1, 0);
        for (int i = 0; i < 5; i++) {
            due("insert", x.insert(0), i);
            due("delete", x.delete(0, i), 0);
        }
        x.begin();
        due("in a change", x.insert(0), 5);
        x.delete(0, 5);
        x.commit();
        due("behind it", x.insert(0), 6);
    }

    static void valuesOfNewRecordsAreAbsent() {
        sentence(0, "A VALUE of a new RECORD is ABSENT.");
        int q = x.source(x.table(6, kinds(LONG, REAL, WORD, DAY, TRUTH, LONG)));
        x.word(1);
        x.insert(0);
        dueRun("a new RECORD", q, "-,-,-,-,-,-");
        x.begin();
        due("insert", x.insert(0), 1);
        for (int c = 0; c < 6; c++) {
            due("put", x.put(0, 1, c, 0), 1);
        }
        x.rollback();
        due("the same number again", x.insert(0), 1);
        dueRun("it has nothing of the one that was taken back", q, "-,-,-,-,-,-|-,-,-,-,-,-");
    }

    static void numbersOfTablesRecordsAndColumns() {
        sentence(5, "BAD: TABLE, RECORD (also one that is not there), column, BITS that its KIND has not");
        x.table(2, 0);
        x.insert(0);
        x.insert(0);
        x.delete(0, 0);
        int[][] bad = {{-1, 1, 0}, {1, 1, 0}, {MIN_INT, 1, 0}, {MAX_INT, 1, 0}, {0, -1, 0}, {0, 2, 0}, {0, 0, 0}, {0, 60, 0},
            {0, 200, 0}, {0, MIN_INT, 0}, {0, MAX_INT, 0}, {0, 1, -1}, {0, 1, 2}, {0, 1, 6}, {0, 1, MIN_INT}, {0, 1, MAX_INT}};
        for (int[] at : bad) {
            String where = " " + at[0] + " " + at[1] + " " + at[2];
            due("put" + where, x.put(at[0], at[1], at[2], 5), BAD);
            due("absent" + where, x.absent(at[0], at[1], at[2]), BAD);
            due("value" + where, x.value(at[0], at[1], at[2]), NO);
            if (at[2] == 0) {
                due("delete" + where, x.delete(at[0], at[1]), BAD);
            }
        }
        due("records", x.records(0), 1);
        due("the last column of the last RECORD", x.put(0, 1, 1, 5), 1);
        due("its VALUE", x.value(0, 1, 1), 5);
        due("the first column", x.value(0, 1, 0), NO);
    }

    static void aRecordThatWasTakenBackIsNotThere() {
        sentence(5, "RECORD (also one that is not there)");
        x.table(1, 0);
        x.begin();
        x.insert(0);
        due("in the change", x.put(0, 0, 0, 5), 1);
        x.rollback();
        due("put", x.put(0, 0, 0, 5), BAD);
        due("absent", x.absent(0, 0, 0), BAD);
        due("delete", x.delete(0, 0), BAD);
        due("value", x.value(0, 0, 0), NO);
    }

    static void absentOnesMayBecomeAbsent() {
        sentence(6, "It becomes ABSENT: 1. BAD.");
        int q = sourceOf("5,6", LONG, LONG);
        due("absent", x.absent(0, 0, 1), 1);
        dueRun("the other one stays", q, "5,-");
        due("again", x.absent(0, 0, 1), 1);
        dueRun("the same", q, "5,-");
        due("a VALUE again", x.put(0, 0, 1, 0), 1);
        dueRun("0 is not ABSENT", q, "5,0");
    }

    static void theLastRecordLeavesNone() {
        sentence(7, "A RECORD goes: how many are left. BAD.");
        int q = sourceOf("5|6|7", LONG);
        due("the middle one", x.delete(0, 1), 2);
        due("again", x.delete(0, 1), BAD);
        due("the last one", x.delete(0, 2), 1);
        due("the first one", x.delete(0, 0), 0);
        due("none is left", x.delete(0, 0), BAD);
        dueRun("an empty TABLE", q, "");
        due("records", x.records(0), 0);
    }

    static void sixtyOnesLeave59() {
        sentence(7, "A RECORD goes: how many are left. BAD.");
        x.table(1, 0);
        x.fill(0, 60, 1, 1);
        for (int left = 59; left >= 0; left--) {
            due("delete", x.delete(0, left), left);
        }
    }

    // ---- promise 8

    /** A z from which the first draw is this one. */
    private static int before(long draw) {
        BigInteger all = BigInteger.ONE.shiftLeft(31);
        BigInteger z = BigInteger.valueOf(draw - 12345).multiply(BigInteger.valueOf(1103515245).modInverse(all)).mod(all);
        return z.intValueExact();
    }

    /** What a KIND has by a draw: NO, if it is ABSENT. */
    private static long drawn(int kind, long draw, int spread, int words) {
        long d = draw / 256 % spread;
        if (draw < 1 << 27) {
            return NO;
        }
        switch (kind) {
            case REAL: return real((d - spread / 2) / 4.0);
            case WORD: return words == 0 ? NO : d % words;
            case TRUTH: return d % 2;
            default: return d - spread / 2;
        }
    }

    private static void dueFill(String what, int z, int spread, int n, int... kinds) {
        int words = x.count(0);
        int t = x.table(kinds.length, kinds(kinds));
        due(what, x.fill(t, n, z, spread), 0);
        BigInteger draw = BigInteger.valueOf(z);
        for (int record = 0; record < n; record++) {
            for (int c = 0; c < kinds.length; c++) {
                draw = draw.multiply(BigInteger.valueOf(1103515245)).add(BigInteger.valueOf(12345));
                draw = draw.mod(BigInteger.ONE.shiftLeft(31));
                long want = drawn(kinds[c], draw.longValueExact(), spread, words);
                due(what + ", RECORD " + record + ", column " + c, x.value(t, record, c), want);
            }
        }
    }

    static void drawsWrapAround() {
        for (int z : new int[] {0, 1, -1, 12345, MAX_INT, MIN_INT, MIN_INT + 1, 1 << 30}) {
            sentence(8, "z becomes (z 1103515245 + 12345) modulo 2^31 for each column of each of them, in order");
            x.word(1);
            x.word(2);
            x.word(3);
            dueFill("fill from " + z, z, 1000, 10, LONG, REAL, WORD, DAY, TRUTH, LONG);
        }
    }

    static void drawsFromHandWorkedNumbers() {
        sentence(8, "z becomes (z 1103515245 + 12345) modulo 2^31");
        // From 0: 12345, ABSENT; then 12345 1103515245 + 12345 = 13622895711870 is 1406932606 modulo 2^31.
        x.table(1, 0);
        due("fill", x.fill(0, 2, 0, 1000), 0);
        due("the first draw is below 2^27", x.value(0, 0, 0), NO);
        due("5495830 modulo 1000 less 500", x.value(0, 1, 0), 330);
    }

    static void drawsBelowTwoToThe27AreAbsent() {
        sentence(8, "ABSENT, if (z >> 27) is 0");
        for (int kind = 0; kind <= 4; kind++) {
            x = new Told();
            x.word(1);
            x.table(1, kind);
            due("fill", x.fill(0, 1, before((1 << 27) - 1), 7), 0);
            due("2^27 less 1, KIND " + kind, x.value(0, 0, 0), NO);
            due("fill", x.fill(0, 1, before(0), 7), 1);
            due("0, KIND " + kind, x.value(0, 1, 0), NO);
            due("fill", x.fill(0, 1, before(1 << 27), 7), 2);
            due("2^27, KIND " + kind, x.value(0, 2, 0), drawn(kind, 1 << 27, 7, 1));
            due("fill", x.fill(0, 1, before(MAX_INT), 7), 3);
            due("2^31 less 1, KIND " + kind, x.value(0, 3, 0), drawn(kind, MAX_INT, 7, 1));
        }
    }

    static void spreadsFromOneToAMillion() {
        sentence(8, "BAD: also spread, 1 .. 1000000");
        x.table(2, kinds(LONG, DAY));
        for (int spread : new int[] {0, -1, 1000001, MIN_INT, MAX_INT}) {
            due("spread " + spread, x.fill(0, 1, 1, spread), BAD);
        }
        due("records", x.records(0), 0);
        dueFill("spread 1", 5, 1, 20, LONG, DAY);
        dueFill("spread 2", 5, 2, 20, LONG, DAY);
        dueFill("spread 1000000", 5, 1000000, 20, LONG, DAY);
        dueFill("spread 999999", 5, 999999, 20, LONG, DAY);
    }

    static void theEndsOfASpread() {
        sentence(8, "with d = (z >> 8) modulo spread: .. of LONG, DAY d - spread / 2, of REAL the bits of (d - spread / 2) / 4.0");
        int spread = 1000000;
        long[] each = {0, 1, 499999, 500000, 500001, 500002, 500003, 500004, 999999};
        for (long d : each) {
            x = new Told();
            x.table(1, LONG);
            x.table(1, REAL);
            x.table(1, DAY);
            int z = before((d + 3 * spread) << 8 | 255);
            for (int t = 0; t < 3; t++) {
                due("fill", x.fill(t, 1, z, spread), 0);
            }
            due("LONG by " + d, x.value(0, 0, 0), d - 500000);
            due("REAL by " + d, x.value(1, 0, 0), real((d - 500000) / 4.0));
            due("DAY by " + d, x.value(2, 0, 0), d - 500000);
        }
    }

    static void drawnWordsWithoutAnyAreAbsent() {
        sentence(8, "of WORD number d modulo how many there are (ABSENT without any)");
        dueFill("without WORDS", 77, 1000, 20, WORD, LONG);
        x.word(5);
        dueFill("with one WORD", 77, 1000, 20, WORD, LONG);
        x.word(6);
        dueFill("with two WORDS", 77, 1000, 20, WORD, LONG);
        addWords(98);
        dueFill("with 100 WORDS", 77, 1000000, 20, WORD, LONG);
        dueFill("with 100 WORDS and a small spread", 77, 3, 20, WORD, LONG);
    }

    static void drawnTruths() {
        sentence(8, "of TRUTH d modulo 2");
        dueFill("TRUTHS", 3, 1, 20, TRUTH);
        dueFill("TRUTHS", 3, 2, 20, TRUTH);
        dueFill("TRUTHS", 3, 1000000, 20, TRUTH);
    }

    static void fillsOfOneToSixty() {
        sentence(8, "n RECORDS more (1 .. 60)");
        x.table(1, 0);
        for (int n : new int[] {0, -1, 61, 200, MIN_INT, MAX_INT}) {
            due("fill of " + n, x.fill(0, n, 1, 1), BAD);
        }
        due("one", x.fill(0, 1, 1, 1), 0);
        due("one record", x.records(0), 1);
        x.table(1, 0);
        due("sixty", x.fill(1, 60, 1, 1), 0);
        due("sixty records", x.records(1), 60);
    }

    static void fillsOfTablesThatAreNot() {
        sentence(8, "BAD: also spread");
        x.table(1, 0);
        for (int t : new int[] {-1, 1, 6, MIN_INT, MAX_INT}) {
            due("table " + t, x.fill(t, 1, 1, 1), BAD);
        }
    }

    static void fillsAreForAllOrNone() {
        sentence(8, "the first one's number. BAD: also spread, 1 .. 1000000; FULL: not for all.");
        x.table(1, 0);
        due("fill", x.fill(0, 30, 1, 1), 0);
        due("31 more", x.fill(0, 31, 1, 1), FULL);
        due("60 more", x.fill(0, 60, 1, 1), FULL);
        due("none of them came", x.records(0), 30);
        due("30 more", x.fill(0, 30, 1, 1), 30);
        due("one more", x.fill(0, 1, 1, 1), FULL);
        deleteAll(0, 0, 10);
        due("11 for 10 that went", x.fill(0, 11, 1, 1), FULL);
        due("10 for 10 that went", x.fill(0, 10, 1, 1), 60);
    }

    static void fillsOfTheLastNumbers() {
        sentence(0, "200 ever, 60 that are there at once");
        x.table(1, 0);
        for (int from = 0; from < 180; from += 60) {
            x.fill(0, 60, 1, 1);
            deleteAll(0, from, from + 60);
        }
        due("21 of 20", x.fill(0, 21, 1, 1), FULL);
        due("none of them came", x.records(0), 0);
        due("19 of 20", x.fill(0, 19, 1, 1), 180);
        due("two of one", x.fill(0, 2, 1, 1), FULL);
        due("the last one", x.fill(0, 1, 1, 1), 199);
        due("one of none", x.fill(0, 1, 1, 1), FULL);
    }

    // ---- promises 9, 10

    static void aValueMayBeNoItself() {
        sentence(9, "NO stands for one where a VALUE is told; a VALUE may be as it is.");
        int q = sourceOf(NO + "|-", LONG);
        due("the VALUE", x.value(0, 0, 0), NO);
        due("the ABSENT one", x.value(0, 1, 0), NO);
        x.run(q, 1);
        due("the cell", x.cell(0, 0), NO);
        due("is it ABSENT", x.isAbsent(0, 0), 0);
        due("is the other one", x.isAbsent(1, 0), 1);
        due("it is a VALUE", x.run(x.where(q, x.compare(0, 0, LONG, NO)), 1), 1);
    }

    static void recordsOfATable() {
        sentence(10, "How many RECORDS are there. BAD.");
        x.table(1, 0);
        due("an empty TABLE", x.records(0), 0);
        x.fill(0, 60, 1, 1);
        due("a full TABLE", x.records(0), 60);
        for (int t : new int[] {-1, 1, 5, 6, MIN_INT, MAX_INT}) {
            due("records(" + t + ")", x.records(t), BAD);
        }
    }
}
