/** For each promise of the document: ordinary inputs, the edges that it names, and wrong inputs. */
public final class PromisesTest extends Checks {
    // ---- words, tables

    static void newObject() {
        fresh(1);
        for (int what = 0; what < 8; what++) {
            due("count(" + what + ")", x.count(what), 0);
        }
        due("run", x.run(0, 0), BAD);
        due("digest", x.digest(), 7);
        due("looked(0)", x.looked(0), 0);
        due("looked(1)", x.looked(1), 0);
        due("cell", x.cell(0, 0), NO);
        due("isAbsent", x.isAbsent(0, 0), BAD);
        due("commit", x.commit(), STATE);
        due("rollback", x.rollback(), STATE);
        due("insert", x.insert(0), BAD);
        due("source", x.source(0), BAD);
        due("kept", x.kept(0), BAD);
        RecordCounter other = new RecordCounter();
        other.word(1);
        due("count of another object", x.count(0), 0);
    }

    static void words() {
        fresh(2);
        due("a", x.word(letters("a")), 0);
        due("aa", x.word(letters("aa")), 1);
        due("a again", x.word(letters("a")), 0);
        due("12 letters", x.word(letters("zzzzzzzzzzzz")), 2);
        long[] none = {0, -1, 27, 28 * 27, 27 * 27 + 1, letters("aaaaaaaaaaaaa"), letters("zzzzzzzzzzzzz"),
            letters("zzzzzzzzzzzz") + 1, Long.MAX_VALUE, NO};
        for (long letters : none) {
            due("word(" + letters + ")", x.word(letters), BAD);
        }
        due("count", x.count(0), 3);
        for (int i = 0; i < 97; i++) {
            due("word " + (3 + i), x.word(letters("b" + (char) ('a' + i / 26) + (char) ('a' + i % 26))), 3 + i);
        }
        due("the 101st", x.word(letters("q")), FULL);
        due("no word", x.word(27), BAD);
        due("one that is there", x.word(letters("aa")), 1);
        due("count", x.count(0), 100);
    }

    static void tables() {
        fresh(3);
        due("none", x.table(0, 0), BAD);
        due("7 columns", x.table(7, 0), BAD);
        due("-1 columns", x.table(-1, 0), BAD);
        for (int kind = 5; kind < 8; kind++) {
            due("KIND " + kind, x.table(1, kind), BAD);
            due("KIND " + kind + " last", x.table(6, kind << 15), BAD);
            due("KIND " + kind + " behind", x.table(1, kind << 3 | TRUTH), kind - 5);
        }
        due("negative kinds", x.table(2, -64), 3);
        due("negative kinds, column 2", x.table(3, -64), BAD);
        due("six", x.table(6, kinds(LONG, REAL, WORD, DAY, TRUTH, DAY) | 1 << 20), 4);
        int q = x.source(4);
        int[] each = {LONG, REAL, WORD, DAY, TRUTH, DAY};
        for (int c = 0; c < 6; c++) {
            due("kind of column " + c, x.kind(q, c), each[c]);
        }
        x.begin();
        due("in a change", x.table(1, 0), STATE);
        due("bad in a change", x.table(1, 5), BAD);
        x.commit();
        due("the sixth", x.table(1, 0), 5);
        due("the seventh", x.table(1, 0), FULL);
        due("bad and full", x.table(0, 0), BAD);
        x.begin();
        due("in a change and full", x.table(1, 0), STATE);
        due("count", x.count(1), 6);
    }

    static void inserts() {
        fresh(4);
        x.table(2, 0);
        for (int t : NOT_THERE) {
            due("insert(" + t + ")", x.insert(t), BAD);
        }
        for (int i = 0; i < 60; i++) {
            due("insert", x.insert(0), i);
        }
        due("a new VALUE", x.value(0, 59, 1), NO);
        due("the 61st", x.insert(0), FULL);
        due("records", x.records(0), 60);
        x.put(0, 7, 0, 5);
        x.delete(0, 7);
        due("behind a delete", x.insert(0), 60);
        due("its VALUE", x.value(0, 60, 0), NO);
        for (int record = 0; record < 61; record++) {
            x.delete(0, record);
        }
        due("records", x.records(0), 0);
        due("fill", x.fill(0, 60, 1, 9), 61);
        for (int record = 61; record < 121; record++) {
            x.delete(0, record);
        }
        due("fill", x.fill(0, 60, 1, 9), 121);
        for (int record = 121; record < 181; record++) {
            x.delete(0, record);
        }
        due("fill beyond 200", x.fill(0, 20, 1, 9), FULL);
        due("fill to 200", x.fill(0, 19, 1, 9), 181);
        due("the 201st", x.insert(0), FULL);
        due("records", x.records(0), 19);
    }

    static void puts() {
        fresh(5);
        x.word(1);
        x.table(5, kinds(LONG, REAL, WORD, DAY, TRUTH));
        x.insert(0);
        x.insert(0);
        x.delete(0, 1);
        for (int n : NOT_THERE) {
            due("table " + n, x.put(n, 0, 0, 1), BAD);
            due("record " + n, x.put(0, n, 0, 1), BAD);
            due("column " + n, x.put(0, 0, n, 1), BAD);
        }
        due("a record that went", x.put(0, 1, 0, 1), BAD);
        due("a column too far", x.put(0, 0, 5, 0), BAD);
        long[][] good = {{NO, Long.MAX_VALUE, 0}, {NO, 0, real(1.5), real(Double.NEGATIVE_INFINITY), real(Double.POSITIVE_INFINITY)},
            {0}, {-3000000, 3000000, 0}, {0, 1}};
        long[][] bad = {{}, {}, {-1, 1, 1L << 32, NO}, {-3000001, 3000001, 1L << 32}, {-1, 2, 1L << 32, NO}};
        for (int c = 0; c < 5; c++) {
            for (long bits : good[c]) {
                due("put " + bits, x.put(0, 0, c, bits), 1);
                due("value " + bits, x.value(0, 0, c), bits);
            }
            for (long bits : bad[c]) {
                due("put " + bits, x.put(0, 0, c, bits), BAD);
                due("value behind it", x.value(0, 0, c), good[c][good[c].length - 1]);
            }
        }
        for (long nan : new long[] {NAN, -1, Long.MAX_VALUE, 9218868437227405313L, -4503599627370495L}) {
            due("put 0.0", x.put(0, 0, 1, 0), 1);
            due("put not-a-number", x.put(0, 0, 1, nan), 1);
            due("not-a-number", x.value(0, 0, 1), NAN);
        }
    }

    static void absents() {
        fresh(6);
        x.table(2, 0);
        load(0, "1,2|3,4");
        due("absent", x.absent(0, 0, 1), 1);
        due("value", x.value(0, 0, 1), NO);
        due("the one beside", x.value(0, 0, 0), 1);
        due("the one below", x.value(0, 1, 1), 4);
        due("again", x.absent(0, 0, 1), 1);
        due("put again", x.put(0, 0, 1, 9), 1);
        due("value", x.value(0, 0, 1), 9);
        for (int n : NOT_THERE) {
            due("table " + n, x.absent(n, 0, 0), BAD);
            due("record " + n, x.absent(0, n, 0), BAD);
            due("column " + n, x.absent(0, 0, n), BAD);
        }
        x.delete(0, 1);
        due("one that went", x.absent(0, 1, 0), BAD);
    }

    static void deletes() {
        fresh(7);
        x.table(1, 0);
        load(0, "1|2|3");
        due("delete", x.delete(0, 1), 2);
        due("again", x.delete(0, 1), BAD);
        due("value", x.value(0, 1, 0), NO);
        due("value beside", x.value(0, 2, 0), 3);
        for (int n : NOT_THERE) {
            due("table " + n, x.delete(n, 0), BAD);
            due("record " + n, x.delete(0, n), BAD);
        }
        due("one not yet there", x.delete(0, 3), BAD);
        due("delete", x.delete(0, 0), 1);
        due("delete", x.delete(0, 2), 0);
        due("records", x.records(0), 0);
        due("insert", x.insert(0), 3);
    }

    static void fills() {
        fresh(8);
        int[] kinds = {LONG, REAL, WORD, DAY, TRUTH, LONG};
        x.table(6, kinds(kinds));
        due("without WORDS", x.fill(0, 1, 1, 7), 0);
        due("its WORD", x.value(0, 0, 2), NO);
        x.word(1);
        x.word(2);
        x.word(3);
        due("with WORDS", x.fill(0, 59, -12345, 1001), 1);
        long z = -12345;
        for (int record = 1; record < 60; record++) {
            for (int c = 0; c < 6; c++) {
                z = Math.floorMod(Math.floorMod(z, 1L << 31) * 1103515245L + 12345, 1L << 31);
                long d = z / 256 % 1001;
                long[] due = {d - 500, real((d - 500) / 4.0), d % 3, d - 500, d % 2, d - 500};
                due("record " + record + " column " + c, x.value(0, record, c), z >> 27 == 0 ? NO : due[c]);
            }
        }
        x.table(1, 0);
        for (int t : NOT_THERE) {
            due("table " + t, x.fill(t, 1, 1, 1), BAD);
        }
        due("0", x.fill(1, 0, 1, 1), BAD);
        due("-1", x.fill(1, -1, 1, 1), BAD);
        due("61", x.fill(1, 61, 1, 1), BAD);
        due("spread 0", x.fill(1, 1, 1, 0), BAD);
        due("spread -1", x.fill(1, 1, 1, -1), BAD);
        due("spread beyond", x.fill(1, 1, 1, 1000001), BAD);
        due("greatest spread", x.fill(1, 1, 1, 1000000), 0);
        due("60 beside one", x.fill(1, 60, 1, 1), FULL);
        due("records", x.records(1), 1);
        due("59 beside one", x.fill(1, 59, 1, 1), 1);
        due("spread 1", x.value(1, 1, 0), 0);
        due("bad and full", x.fill(1, 61, 1, 1), BAD);
        // (5 1103515245 + 12345) modulo 2^31 is 1222621274; 4775864 modulo 1000 is 864.
        x.table(1, 0);
        x.fill(2, 1, 5, 1000);
        due("the first draw from 5", x.value(2, 0, 0), 364);
    }

    static void valuesAndRecords() {
        fresh(9);
        x.table(2, 0);
        load(0, "5,-|6,7");
        due("value", x.value(0, 0, 0), 5);
        due("absent", x.value(0, 0, 1), NO);
        due("NO itself", x.put(0, 0, 1, NO) * 2 + x.value(0, 0, 1), NO + 2);
        for (int n : NOT_THERE) {
            due("table " + n, x.value(n, 0, 0), NO);
            due("record " + n, x.value(0, n, 0), NO);
            due("column " + n, x.value(0, 0, n), NO);
        }
        promise(10);
        due("records", x.records(0), 2);
        x.delete(0, 0);
        due("records", x.records(0), 1);
        for (int n : NOT_THERE) {
            due("records(" + n + ")", x.records(n), BAD);
        }
    }

    // ---- tests

    static void compares() {
        fresh(11);
        x.word(letters("b"));
        due("code -1", x.compare(-1, 0, 0, 0), BAD);
        due("code 4", x.compare(4, 0, 0, 0), BAD);
        due("column -1", x.compare(0, -1, 0, 0), BAD);
        due("column 24", x.compare(0, 24, 0, 0), BAD);
        due("by 3 column 24", x.compare(3, 24, 0, 0), BAD);
        due("kind -1", x.compare(0, 0, -1, 0), BAD);
        due("kind 5", x.compare(0, 0, 5, 0), BAD);
        due("no WORD", x.compare(0, 0, WORD, 1), BAD);
        due("no DAY", x.compare(1, 0, DAY, 3000001), BAD);
        due("no TRUTH", x.compare(2, 0, TRUTH, 2), BAD);
        due("column 23", x.compare(0, 23, 0, 0), 0);
        due("by 3 all", x.compare(3, 0, 77, NO), 1);
        due("a WORD", x.compare(0, 0, WORD, 0), 2);
        tableOf("1|2|-|3", LONG);
        int q = x.source(0);
        int from = x.count(2);
        String[] want = {"2", "1", "3", "-"};
        for (int code = 0; code < 4; code++) {
            due("compare by " + code, x.compare(code, 0, LONG, 2), from + code);
            dueRun("compare by " + code, x.where(q, from + code), want[code]);
        }
        long[] reals = {real(-1), NO, 0, real(2), NAN};
        tableOf(reals[0] + "|" + NO + "|0|" + reals[3] + "|" + NAN, REAL);
        q = x.source(1);
        dueRun("like not-a-number", x.where(q, x.compare(0, 0, REAL, -1)), "" + NAN);
        dueRun("like -0.0", x.where(q, x.compare(0, 0, REAL, NO)), "" + NO);
        dueRun("below 0.0", x.where(q, x.compare(1, 0, REAL, 0)), reals[0] + "|" + NO);
        dueRun("above 0.0", x.where(q, x.compare(2, 0, REAL, 0)), reals[3] + "|" + NAN);
        dueRun("below -0.5", x.where(q, x.compare(1, 0, REAL, real(-0.5))), "" + reals[0]);
        dueRun("above infinity", x.where(q, x.compare(2, 0, REAL, real(Double.POSITIVE_INFINITY))), "" + NAN);
        x.word(letters("ba"));
        x.word(letters("a"));
        x.word(letters("azz"));
        x.word(letters("c"));
        tableOf("0|1|2|3|4", WORD);
        q = x.source(2);
        dueRun("below b", x.where(q, x.compare(1, 0, WORD, 0)), "2|3");
        dueRun("above b", x.where(q, x.compare(2, 0, WORD, 0)), "1|4");
        dueRun("below ba", x.where(q, x.compare(1, 0, WORD, 1)), "0|2|3");
        fillTests();
        due("the 101st", x.compare(0, 0, 0, 0), FULL);
        due("bad and full", x.compare(0, 0, 5, 0), BAD);
        due("count", x.count(2), 100);
    }

    static void pairs() {
        fresh(12);
        due("code -1", x.pair(-1, 0, 0), BAD);
        due("code 3", x.pair(3, 0, 0), BAD);
        for (int c : new int[] {-1, 24, Integer.MAX_VALUE}) {
            due("a " + c, x.pair(0, c, 0), BAD);
            due("b " + c, x.pair(0, 0, c), BAD);
        }
        due("23", x.pair(0, 23, 23), 0);
        tableOf("1,1|1,2|2,1|-,1|1,-|-,-", LONG, LONG);
        int q = x.source(0);
        dueRun("like", x.where(q, x.pair(0, 0, 1)), "1,1");
        dueRun("below", x.where(q, x.pair(1, 0, 1)), "1,2");
        dueRun("above", x.where(q, x.pair(2, 0, 1)), "2,1");
        dueRun("not like", x.where(q, x.logic(2, x.pair(0, 0, 1), 0)), "1,2|2,1");
        x.word(letters("b"));
        x.word(letters("a"));
        tableOf("0,1|1,0", WORD, WORD);
        int r = x.source(1);
        dueRun("WORDS below", x.where(r, x.pair(1, 0, 1)), "1,0");
        int both = x.logic(0, x.pair(1, 2, 0), x.pair(2, 1, 3));
        dueRun("WORDS of a join below", x.join(r, r, both, 2), "");
        dueRun("WORDS of a join with one", x.join(r, r, x.pair(1, 2, 0), 2), "0,1");
        fillTests();
        due("the 101st", x.pair(0, 0, 0), FULL);
        due("bad and full", x.pair(0, 0, 24), BAD);
    }

    static void logics() {
        fresh(13);
        // Each record tells one pair of truths: 1 YES, 0 NO, absent UNKNOWN.
        tableOf("1,1|1,0|1,-|0,1|0,0|0,-|-,1|-,0|-,-", TRUTH, TRUTH);
        int q = x.source(0);
        int a = x.compare(0, 0, TRUTH, 1);
        int b = x.compare(0, 1, TRUTH, 1);
        int[] made = {x.logic(0, a, b), x.logic(1, a, b), x.logic(2, a, -5)};
        due("BOTH", made[0], 2);
        due("NOT, b is not looked at", made[2], 4);
        dueRun("BOTH", x.work(q, 12, made[0], 0), "1,1,1|1,0,0|1,-,-|0,1,0|0,0,0|0,-,0|-,1,-|-,0,0|-,-,-");
        dueRun("EITHER", x.work(q, 12, made[1], 0), "1,1,1|1,0,1|1,-,1|0,1,1|0,0,0|0,-,-|-,1,1|-,0,-|-,-,-");
        dueRun("NOT", x.work(q, 12, made[2], 0), "1,1,0|1,0,0|1,-,0|0,1,1|0,0,1|0,-,1|-,1,-|-,0,-|-,-,-");
        due("way -1", x.logic(-1, a, b), BAD);
        due("way 3", x.logic(3, a, b), BAD);
        for (int n : new int[] {-1, 5, Integer.MAX_VALUE}) {
            due("a " + n, x.logic(0, n, b), BAD);
            due("b " + n, x.logic(0, a, n), BAD);
            due("b by EITHER " + n, x.logic(1, a, n), BAD);
            due("NOT of " + n, x.logic(2, n, b), BAD);
        }
        int three = x.logic(0, a, b);
        int seven = x.logic(0, three, three);
        int fifteen = x.logic(1, seven, seven);
        int thirtyOne = x.logic(0, fifteen, fifteen);
        due("SIZE 39", x.logic(0, thirtyOne, seven) >= 0 ? 1 : 0, 1);
        int thirtyNine = x.count(2) - 1;
        int forty = x.logic(2, thirtyNine, 0);
        due("SIZE 40", forty, thirtyNine + 1);
        due("SIZE 41", x.logic(2, forty, 0), FULL);
        due("SIZE 41 of two", x.logic(0, thirtyNine, a), FULL);
        due("SIZE 63", x.logic(0, thirtyOne, thirtyOne), FULL);
        due("bad and too great", x.logic(0, forty, 99), BAD);
        dueRun("SIZE 40", x.cut(x.work(q, 12, forty, 0), 0, 2), "1,1,0|1,0,1");
        int chain = a;
        for (int i = 0; i < 39; i++) {
            chain = x.logic(2, chain, 0);
        }
        due("39 NOTS fit", x.fits(chain, q), 1);
        dueRun("39 NOTS", x.where(q, chain), "0,1|0,0|0,-");
        due("40 NOTS", x.logic(2, chain, 0), FULL);
        fillTests();
        due("the 101st", x.logic(2, a, 0), FULL);
    }

    static void fitting() {
        fresh(14);
        x.word(1);
        tableOf("", LONG, WORD, LONG, DAY);
        int q = x.source(0);
        int[] yes = {x.compare(0, 0, LONG, 5), x.compare(1, 1, WORD, 0), x.compare(3, 3, LONG, 0), x.pair(0, 0, 2),
            x.pair(2, 1, 1), x.logic(2, 0, 0)};
        for (int test : yes) {
            due("fits " + test, x.fits(test, q), 1);
        }
        int[] not = {x.compare(0, 1, LONG, 5), x.compare(2, 3, LONG, 0), x.compare(3, 4, LONG, 0), x.compare(0, 4, LONG, 0),
            x.pair(0, 0, 3), x.pair(0, 0, 4), x.pair(0, 4, 0), x.pair(1, 12, 12)};
        for (int test : not) {
            due("does not fit " + test, x.fits(test, q), 0);
        }
        due("NOT of one that does not", x.fits(x.logic(2, not[0], 0), q), 0);
        due("BOTH, the first", x.fits(x.logic(0, not[0], yes[0]), q), 0);
        due("BOTH, the second", x.fits(x.logic(0, yes[0], not[0]), q), 0);
        due("EITHER, the second", x.fits(x.logic(1, yes[0], not[0]), q), 0);
        for (int n : NOT_THERE) {
            due("test " + n, x.fits(n, q), BAD);
            due("query " + n, x.fits(0, n), BAD);
        }
    }

    // ---- queries

    static void sources() {
        fresh(15);
        longs("1,2|3,-|5,6", 2);
        due("source", x.source(0), 0);
        due("again", x.source(0), 1);
        for (int n : NOT_THERE) {
            due("source(" + n + ")", x.source(n), BAD);
        }
        dueRun("source", 0, "1,2|3,-|5,6");
        x.delete(0, 1);
        load(0, "7,8");
        x.put(0, 0, 1, 9);
        dueRun("source behind changes", 0, "1,9|5,6|7,8");
        fillQueries(0);
        due("the 41st", x.source(0), FULL);
        due("bad and full", x.source(1), BAD);
        due("count", x.count(3), 40);
    }

    static void wheres() {
        fresh(16);
        longs("1,2|3,-|5,6|5,1", 2);
        int q = x.source(0);
        int above = x.compare(2, 1, LONG, 1);
        due("where", x.where(q, above), 1);
        dueRun("YES alone", 1, "1,2|5,6");
        dueRun("NOT of UNKNOWN", x.where(q, x.logic(2, above, 0)), "5,1");
        dueRun("of a where", x.where(1, x.compare(0, 0, LONG, 5)), "5,6");
        for (int n : NOT_THERE) {
            due("query " + n, x.where(n, 0), BAD);
            due("test " + n, x.where(q, n), BAD);
        }
        int other = x.compare(0, 2, LONG, 0);
        due("does not fit", x.where(q, other), KIND);
        due("BAD ahead of KIND", x.where(99, other), BAD);
        fillQueries(0);
        due("KIND ahead of FULL", x.where(q, other), KIND);
        due("FULL", x.where(q, above), FULL);
    }

    static void joins() {
        fresh(17);
        longs("1,10|2,20|-,30|3,40", 2);
        longs("2,5|1,6|2,7|-,8", 2);
        int q = x.source(0);
        int r = x.source(1);
        int like = x.pair(0, 0, 2);
        String[] want = {"1,10,1,6|2,20,2,5|2,20,2,7", "1,10,1,6|2,20,2,5|2,20,2,7|-,30,-,-|3,40,-,-",
            "1,10|2,20", "-,30|3,40"};
        for (int way = 0; way < 4; way++) {
            due("join by " + way, x.join(q, r, like, way), 2 + way);
            dueRun("join by " + way, 2 + way, want[way]);
            due("columns", x.columns(2 + way), way < 2 ? 4 : 2);
        }
        int below = x.pair(1, 0, 2);
        dueRun("below", x.join(q, r, below, 0), "1,10,2,5|1,10,2,7");
        dueRun("with itself", x.join(q, q, below, 0), "1,10,2,20|1,10,3,40|2,20,3,40");
        int none = x.source(x.table(1, 0));
        int absent = x.compare(3, 0, 0, 0);
        dueRun("with none by 1", x.join(r, none, absent, 1), "2,5,-|1,6,-|2,7,-|-,8,-");
        dueRun("with none by 3", x.join(r, none, absent, 3), "2,5|1,6|2,7|-,8");
        dueRun("of none", x.join(none, r, absent, 1), "");
        dueRun("the right side's absent", x.join(r, x.cut(q, 2, 1), x.compare(3, 2, 0, 0), 2), "2,5|1,6|2,7|-,8");
        for (int n : NOT_THERE) {
            due("q " + n, x.join(n, r, like, 0), BAD);
            due("r " + n, x.join(q, n, like, 0), BAD);
            due("test " + n, x.join(q, r, n, 0), BAD);
            due("way " + n, x.join(q, r, like, n), BAD);
        }
        due("way 4", x.join(q, r, like, 4), BAD);
        due("does not fit", x.join(q, r, x.pair(0, 0, 4), 0), KIND);
        int six = x.source(x.table(6, 0));
        int twelve = x.join(six, six, like, 0);
        due("12 columns", x.columns(twelve), 12);
        for (int way = 0; way < 4; way++) {
            due("13 columns by " + way, x.join(twelve, none, like, way), KIND);
        }
        fillQueries(0);
        due("KIND ahead of FULL", x.join(twelve, none, like, 0), KIND);
        due("FULL", x.join(q, r, like, 0), FULL);
    }

    static void works() {
        fresh(18);
        long max = Long.MAX_VALUE;
        longs("7,2|-7,2|" + max + ",1|" + NO + ",-1|5,0|-,3|3,-|" + (1L << 62) + ",2|-1," + NO + "|0," + NO, 2);
        int q = x.source(0);
        String[] rows = {"7,2", "-7,2", max + ",1", NO + ",-1", "5,0", "-,3", "3,-", (1L << 62) + ",2", "-1," + NO, "0," + NO};
        String[][] want = {
            {"9", "-5", "-", "-", "5", "-", "-", "" + ((1L << 62) + 2), "-", "" + NO},
            {"5", "-9", "" + (max - 1), "" + (NO + 1), "5", "-", "-", "" + ((1L << 62) - 2), "" + max, "-"},
            {"14", "-14", "" + max, "-", "0", "-", "-", "-", "-", "0"},
            {"3", "-3", "" + max, "-", "-", "-", "-", "" + (1L << 61), "0", "0"},
            {"2", "-7", "1", "" + NO, "0", "-", "-", "2", "" + NO, "" + NO},
            {"7", "2", "" + max, "-1", "5", "-", "-", "" + (1L << 62), "-1", "0"},
            {"7", "-7", "" + max, "" + NO, "5", "3", "3", "" + (1L << 62), "-1", "0"}};
        for (int f = 0; f < want.length; f++) {
            StringBuilder all = new StringBuilder();
            for (int i = 0; i < rows.length; i++) {
                all.append(i > 0 ? "|" : "").append(rows[i]).append(',').append(want[f][i]);
            }
            dueRun("function " + f, x.work(q, f, 0, 1), all.toString());
        }
        int few = x.cut(q, 4, 3);
        dueRun("10", x.work(few, 10, 0, 1), "5,0,0|-,3,-|3,-,-");
        dueRun("10 of itself", x.work(few, 10, 0, 0), "5,0,1|-,3,-|3,-,1");
        dueRun("11", x.work(few, 11, 0, 77), "5,0,0|-,3,1|3,-,0");
        dueRun("12", x.work(few, 12, x.compare(2, 0, LONG, 4), 77), "5,0,1|-,3,-|3,-,0");
        due("its kind", x.kind(x.count(3) - 1, 2), TRUTH);
        int wide = x.work(x.work(q, 0, 0, 1), 1, 0, 1);
        due("no test", x.work(q, 12, 1, 0), BAD);
        due("no test", x.work(q, 12, -1, 0), BAD);
        due("does not fit", x.work(q, 12, x.compare(0, 2, LONG, 0), 0), KIND);
        due("function -1", x.work(q, -1, 0, 0), BAD);
        due("function 13", x.work(q, 13, 0, 0), BAD);
        for (int n : NOT_THERE) {
            due("q " + n, x.work(n, 0, 0, 0), BAD);
            due("a " + n, x.work(q, 0, n, 0), BAD);
            due("b " + n, x.work(q, 0, 0, n), BAD);
            due("a of 9 " + n, x.work(q, 9, n, 0), BAD);
            due("a of 11 " + n, x.work(q, 11, n, 0), BAD);
            due("b of 6 " + n, x.work(q, 6, 0, n), BAD);
        }
        while (x.columns(wide) < 12) {
            wide = x.work(wide, 6, 0, 1);
        }
        due("a 13th", x.work(wide, 6, 0, 1), KIND);
        due("a 13th by a TEST", x.work(wide, 12, 0, 1), KIND);
        fillQueries(0);
        due("KIND ahead of FULL", x.work(wide, 6, 0, 1), KIND);
        due("FULL", x.work(q, 6, 0, 1), FULL);
        due("FULL by a TEST", x.work(q, 12, 0, 1), FULL);
    }

    static void worksOfOtherKinds() {
        fresh(18);
        x.word(letters("b"));
        x.word(letters("a"));
        x.word(letters("abcdefghijkl"));
        tableOf("3000000,-3000000,1,0,1,0|-3000000,0,-1,2,0,1|5,7,-,-,-,-|0,0," + NO + ",1,2,1",
            DAY, DAY, LONG, WORD, WORD, TRUTH);
        int q = x.source(0);
        // The worked column is number 6; a GROUP by it alone shows each VALUE of it once.
        int between = x.work(q, 7, 0, 1);
        due("kind of 7", x.kind(between, 6), LONG);
        dueRun("7", x.group(between, 64), "6000000|-3000000|-2|0");
        int later = x.work(q, 8, 0, 2);
        due("kind of 8", x.kind(later, 6), DAY);
        dueRun("8 beyond the DAYS", x.group(later, 64), "-");
        tableOf("3000000,-6000000|-3000000,6000000|0,3000000|1,3000000|0,-3000000|-1,-3000000|0,6000001", DAY, LONG);
        dueRun("8 from end to end", x.group(x.work(x.source(1), 8, 0, 1), 4), "-3000000|3000000|-");
        dueRun("8 within", x.group(x.work(q, 8, 1, 2), 64), "-2999999|-1|-");
        int length = x.work(q, 9, 3, -3);
        due("kind of 9", x.kind(length, 6), LONG);
        dueRun("9", x.group(length, 64), "1|12|-");
        int lesser = x.work(q, 4, 3, 4);
        due("kind of 4", x.kind(lesser, 6), WORD);
        dueRun("4 of WORDS", x.group(lesser, 64), "1|2|-");
        dueRun("5 of WORDS", x.group(x.work(q, 5, 3, 4), 64), "0|-|2");
        dueRun("11 of a TRUTH", x.group(x.work(q, 11, 5, 0), 64), "0|1");
        due("longs of a DAY", x.work(q, 0, 0, 2), KIND);
        due("longs of a DAY behind", x.work(q, 3, 2, 0), KIND);
        due("4 of two KINDS", x.work(q, 4, 0, 2), KIND);
        due("6 of two KINDS", x.work(q, 6, 3, 0), KIND);
        due("7 of a LONG", x.work(q, 7, 0, 2), KIND);
        due("7 of a LONG ahead", x.work(q, 7, 2, 0), KIND);
        due("8 of DAYS", x.work(q, 8, 0, 1), KIND);
        due("8 of a LONG and a DAY", x.work(q, 8, 2, 0), KIND);
        due("9 of a LONG", x.work(q, 9, 2, 3), KIND);
        due("10 of two KINDS", x.work(q, 10, 3, 5), KIND);
    }

    static void groups() {
        fresh(19);
        longs("1,5,7|2,5,8|1,5,9|-,5,7|1,6,7|-,5,8", 3);
        int q = x.source(0);
        due("group", x.group(q, 1), 1);
        dueRun("by column 0", 1, "1|2|-");
        dueRun("by columns 0 and 1", x.group(q, 3), "1,5|2,5|-,5|1,6");
        dueRun("by columns 0 and 2", x.group(q, 5), "1,7|2,8|1,9|-,7|-,8");
        dueRun("by none", x.group(q, 0), "()");
        due("its columns", x.columns(x.count(3) - 1), 0);
        dueRun("by none, of none", x.group(x.cut(q, 0, 0), 0), "");
        dueRun("of a group by none", x.group(4, 0), "()");
        tableOf("", WORD, DAY);
        due("kind of a group", x.kind(x.group(x.source(1), 2), 0), DAY);
        for (int set : new int[] {8, 9, 1 << 31, -1, 1 << 12, 1 << 30}) {
            due("group by " + set, x.group(q, set), BAD);
        }
        due("a bit of a row without columns", x.group(4, 1), BAD);
        for (int n : NOT_THERE) {
            due("q " + n, x.group(n, 0), BAD);
        }
        fillQueries(0);
        due("bad and full", x.group(q, 8), BAD);
        due("FULL", x.group(q, 1), FULL);
    }

    static void collects() {
        fresh(20);
        longs("1,5|2,-|1,3|1,-|1,3|1,8|1,5|2,-", 2);
        int q = x.source(0);
        int g = x.group(q, 1);
        long[] want = {6, 5, 24, 3, 8, 3, 5, 5, 5, 4, 3};
        String[] none = {"2", "0", "-", "-", "-", "0", "-", "-", "-", "-", "-"};
        for (int c = 0; c < 11; c++) {
            due("collect by " + c, x.collect(g, c, c == 0 ? -9 : 1), 2 + c);
            dueRun("collect by " + c, 2 + c, "1," + want[c] + "|2," + none[c]);
            due("its kind", x.kind(2 + c, 1), LONG);
        }
        int two = x.collect(4, 3, 0);
        dueRun("collect of a collect", two, "1,24,1|2,-,2");
        dueRun("the first one is absent", x.collect(x.group(x.cut(q, 1, 9), 0), 6, 1), "-");
        dueRun("the last one is absent", x.collect(x.group(x.cut(q, 0, 4), 0), 7, 1), "-");
        due("no group", x.collect(q, 0, 0), KIND);
        due("no group, a column too far", x.collect(q, 1, 99), KIND);
        due("an order of a group", x.collect(x.order(g, 0, true), 0, 0), KIND);
        due("collector -1", x.collect(g, -1, 0), BAD);
        due("collector 11", x.collect(g, 11, 0), BAD);
        due("collector 11, no group", x.collect(q, 11, 0), BAD);
        for (int n : NOT_THERE) {
            due("q " + n, x.collect(n, 0, 0), BAD);
            due("column " + n, x.collect(g, 1, n), BAD);
        }
        due("column 2", x.collect(two, 5, 2), BAD);
        int wide = two;
        while (x.columns(wide) < 12) {
            wide = x.collect(wide, 1, 1);
        }
        due("a 13th", x.collect(wide, 1, 1), KIND);
        due("BAD ahead of KIND", x.collect(wide, 1, 2), BAD);
        fillQueries(0);
        due("FULL", x.collect(g, 1, 1), FULL);
    }

    static void collectsOfEdges() {
        fresh(20);
        long max = Long.MAX_VALUE;
        longs(max + "|" + max + "|-5|" + NO + "|" + NO, 1);
        int q = x.source(0);
        int all = x.group(q, 0);
        int two = x.group(x.cut(q, 0, 2), 0);
        int back = x.group(x.cut(q, 0, 4), 0);
        int low = x.group(x.cut(q, 2, 3), 0);
        dueRun("a sum below zero", x.collect(all, 2, 0), "-7");
        dueRun("a sum beyond a long", x.collect(two, 2, 0), "-");
        dueRun("a sum beyond a long, low", x.collect(low, 2, 0), "-");
        dueRun("a sum that comes back", x.collect(back, 2, 0), "" + (max - 6));
        dueRun("a mean, down", x.collect(all, 9, 0), "-2");
        dueRun("a mean whose sum is beyond a long", x.collect(two, 9, 0), "" + max);
        dueRun("a low one", x.collect(low, 9, 0), "-6148914691236517207");
        dueRun("most often, of several the least", x.collect(all, 10, 0), "" + NO);
        dueRun("the middle one", x.collect(all, 8, 0), "-5");
        dueRun("the middle one of four", x.collect(back, 8, 0), "-5");
        int single = x.group(x.cut(q, 2, 1), 0);
        for (int collector : new int[] {2, 3, 4, 6, 7, 8, 9, 10}) {
            dueRun("of one VALUE by " + collector, x.collect(single, collector, 0), "-5");
        }
        x.word(letters("b"));
        x.word(letters("a"));
        x.word(letters("ab"));
        tableOf("0," + NO + "|1,0|2," + real(-1) + "|2," + NAN + "|0,-", WORD, REAL);
        int g = x.group(x.source(1), 0);
        dueRun("least WORD", x.collect(g, 3, 0), "1");
        dueRun("greatest WORD", x.collect(g, 4, 0), "0");
        dueRun("middle WORD", x.collect(g, 8, 0), "2");
        dueRun("WORD most often", x.collect(g, 10, 0), "2");
        due("its kind", x.kind(x.count(3) - 1, 0), WORD);
        dueRun("least REAL", x.collect(g, 3, 1), "" + real(-1));
        dueRun("greatest REAL", x.collect(g, 4, 1), "" + NAN);
        dueRun("middle REAL", x.collect(g, 8, 1), "" + NO);
        dueRun("unlike REALS", x.collect(g, 5, 1), "4");
        due("kind of unlike ones", x.kind(x.count(3) - 1, 0), LONG);
        due("sum of WORDS", x.collect(g, 2, 0), KIND);
        due("mean of REALS", x.collect(g, 9, 1), KIND);
    }

    static void orders() {
        fresh(21);
        longs("2,1|-,2|1,3|2,4|-,5|3,6|1,7", 2);
        int q = x.source(0);
        due("order", x.order(q, 0, false), 1);
        dueRun("upwards", 1, "1,3|1,7|2,1|2,4|3,6|-,2|-,5");
        dueRun("down", x.order(q, 0, true), "3,6|2,1|2,4|1,3|1,7|-,2|-,5");
        x.word(letters("b"));
        x.word(letters("ab"));
        x.word(letters("a"));
        long one = real(1), low = real(-1);
        tableOf("0," + NAN + "|1," + one + "|2,0|-," + NO + "|1," + low, WORD, REAL);
        int r = x.source(1);
        dueRun("WORDS", x.order(r, 0, false), "2,0|1," + one + "|1," + low + "|0," + NAN + "|-," + NO);
        dueRun("REALS down", x.order(r, 1, true), "0," + NAN + "|1," + one + "|2,0|-," + NO + "|1," + low);
        dueRun("REALS", x.order(r, 1, false), "1," + low + "|-," + NO + "|2,0|1," + one + "|0," + NAN);
        for (int n : NOT_THERE) {
            due("q " + n, x.order(n, 0, true), BAD);
            due("column " + n, x.order(q, n, true), BAD);
        }
        due("column 2", x.order(q, 2, true), BAD);
        fillQueries(0);
        due("FULL", x.order(q, 0, true), FULL);
        due("bad and full", x.order(q, 2, true), BAD);
    }

    static void oncesAndCuts() {
        fresh(22);
        longs("1,2|-,2|1,2|1,-|-,2|0,-|1,0|-,0", 2);
        int q = x.source(0);
        due("once", x.once(q), 1);
        dueRun("once", 1, "1,2|-,2|1,-|0,-|1,0|-,0");
        dueRun("once of none", x.once(x.cut(q, 8, 1)), "");
        dueRun("once without columns", x.once(x.also(x.group(q, 0), x.group(q, 0))), "()");
        for (int n : NOT_THERE) {
            due("once(" + n + ")", x.once(n), BAD);
        }
        promise(23);
        int from = x.count(3);
        due("cut", x.cut(q, 1, 2), from);
        dueRun("cut", from, "-,2|1,2");
        dueRun("cut at the end", x.cut(q, 7, 1000), "-,0");
        dueRun("cut behind it", x.cut(q, 1000, 1000), "");
        dueRun("cut of 0", x.cut(q, 0, 0), "");
        dueRun("whole", x.cut(1, 0, 6), "1,2|-,2|1,-|0,-|1,0|-,0");
        for (int n : new int[] {-1, 1001, Integer.MIN_VALUE, Integer.MAX_VALUE}) {
            due("skip " + n, x.cut(q, n, 0), BAD);
            due("n " + n, x.cut(q, 0, n), BAD);
            due("q " + n, x.cut(n, 0, 0), BAD);
        }
        fillQueries(0);
        due("FULL", x.cut(q, 0, 0), FULL);
        due("bad and full", x.cut(q, -1, 0), BAD);
        promise(22);
        due("FULL", x.once(q), FULL);
        due("bad and full", x.once(40), BAD);
    }

    static void alsos() {
        fresh(24);
        longs("1,2|3,-", 2);
        longs("5,6", 2);
        tableOf("7,8", LONG, DAY);
        longs("9", 1);
        int q = x.source(0);
        int r = x.source(1);
        due("also", x.also(q, r), 2);
        dueRun("also", 2, "1,2|3,-|5,6");
        dueRun("the other way", x.also(r, q), "5,6|1,2|3,-");
        dueRun("itself", x.also(r, r), "5,6|5,6");
        int day = x.source(2);
        int one = x.source(3);
        due("another KIND", x.also(q, day), KIND);
        due("fewer columns", x.also(q, one), KIND);
        due("more columns", x.also(one, q), KIND);
        for (int n : NOT_THERE) {
            due("q " + n, x.also(n, q), BAD);
            due("r " + n, x.also(q, n), BAD);
        }
        fillQueries(0);
        due("KIND ahead of FULL", x.also(q, day), KIND);
        due("FULL", x.also(q, r), FULL);
    }

    static void columnsAndKinds() {
        fresh(25);
        tableOf("", REAL, WORD, DAY);
        int q = x.source(0);
        due("columns", x.columns(q), 3);
        due("of a group", x.columns(x.group(q, 6)), 2);
        due("of an order", x.columns(x.order(q, 0, true)), 3);
        for (int n : NOT_THERE) {
            due("columns(" + n + ")", x.columns(n), BAD);
        }
        promise(26);
        due("kind", x.kind(q, 0), REAL);
        due("kind", x.kind(q, 2), DAY);
        due("of a group", x.kind(1, 0), WORD);
        due("of a group, too far", x.kind(1, 2), BAD);
        due("of a join", x.kind(x.join(q, 1, x.pair(0, 1, 3), 0), 4), DAY);
        for (int n : NOT_THERE) {
            due("query " + n, x.kind(n, 0), BAD);
            due("column " + n, x.kind(q, n), BAD);
        }
    }

    // ---- runs

    static void runs() {
        fresh(27);
        longs("1|2|2", 1);
        int q = x.source(0);
        due("run", x.run(q, 1), 3);
        for (int plan : new int[] {-1, 4, Integer.MAX_VALUE}) {
            due("plan " + plan, x.run(q, plan), BAD);
        }
        for (int n : NOT_THERE) {
            due("query " + n, x.run(n, 1), BAD);
        }
        x.table(1, 0);
        x.fill(1, 50, 1, 3);
        int many = x.source(1);
        int hundred = x.also(many, many);
        int twoHundred = x.also(hundred, hundred);
        int more = x.also(twoHundred, q);
        due("200 ROWS", x.run(twoHundred, 1), 200);
        long digest = x.digest();
        due("203 ROWS", x.run(more, 1), MUCH);
        due("a cut of 203 ROWS", x.run(x.cut(more, 0, 1), 2), MUCH);
        due("a group of 203 ROWS", x.run(x.collect(x.group(more, 0), 0, 0), 0), MUCH);
        due("a where of 203 ROWS", x.run(x.where(more, x.compare(0, 0, LONG, 99)), 0), MUCH);
        due("a join of 203 ROWS behind", x.run(x.join(q, more, x.pair(0, 0, 1), 3), 0), MUCH);
        due("the ROWS that were", x.count(5), 200);
        due("their digest", x.digest(), digest);
        due("their looks", x.looked(0), 50);
        int any = x.compare(3, 1, 0, 0);
        int every = x.logic(1, any, x.logic(2, any, 0));
        int four = x.cut(many, 0, 4);
        due("a join of 200 ROWS", x.run(x.join(many, four, every, 0), 1), 200);
        due("a join of 250 ROWS", x.run(x.join(many, x.cut(many, 0, 5), every, 0), 1), MUCH);
        due("a join of 250 pairs by 2", x.run(x.join(many, x.cut(many, 0, 5), every, 2), 1), 50);
        due("200 and absent ones", x.run(x.join(x.also(many, x.cut(q, 0, 1)), four, x.pair(0, 0, 1), 1), 0) >= 0 ? 1 : 0, 1);
        x.delete(0, 0);
        x.delete(0, 1);
        x.delete(0, 2);
        due("203 ROWS became 200", x.run(more, 1), 200);
        x.delete(1, 0);
        due("and 196", x.run(more, 1), 196);
    }

    static void outerJoinsAtTheLimit() {
        fresh(27);
        longs("", 1);
        x.fill(0, 50, 1, 3);
        for (int record = 0; record < 50; record++) {
            x.put(0, record, 0, record);
        }
        int q = x.source(0);
        int hundred = x.also(q, q);
        int twoHundred = x.also(hundred, hundred);
        int lone = x.where(q, x.compare(0, 0, LONG, 49));
        int below = x.pair(1, 0, 1);
        int like = x.pair(0, 0, 1);
        due("200 by 1", x.run(x.join(twoHundred, lone, like, 1), 2), 200);
        due("one with two, 199 alone", x.run(x.join(twoHundred, x.also(lone, lone), like, 1), 2), MUCH);
        due("200 with one", x.run(x.join(twoHundred, lone, below, 1), 2), 200);
        due("200 by 2", x.run(x.join(twoHundred, x.also(lone, lone), below, 2), 2), 196);
        due("by 3", x.run(x.join(twoHundred, x.also(lone, lone), below, 3), 2), 4);
    }

    static void latestRun() {
        fresh(28);
        longs("1,-|" + NO + ",4", 2);
        int q = x.source(0);
        due("nothing yet", x.cell(0, 0), NO);
        x.run(q, 1);
        due("cell", x.cell(0, 0), 1);
        due("cell", x.cell(1, 1), 4);
        due("absent", x.cell(0, 1), NO);
        due("NO itself", x.cell(1, 0), NO);
        for (int n : new int[] {-1, 2, Integer.MIN_VALUE, Integer.MAX_VALUE}) {
            due("row " + n, x.cell(n, 0), NO);
            due("column " + n, x.cell(0, n), NO);
        }
        x.keep(x.order(q, 0, false));
        x.kept(0);
        x.put(0, 0, 0, 77);
        x.run(9, 1);
        due("as it was run", x.cell(0, 0), 1);
        promise(29);
        due("absent", x.isAbsent(0, 1), 1);
        due("not absent", x.isAbsent(0, 0), 0);
        due("NO itself", x.isAbsent(1, 0), 0);
        for (int n : new int[] {-1, 2, Integer.MIN_VALUE, Integer.MAX_VALUE}) {
            due("row " + n, x.isAbsent(n, 0), BAD);
            due("column " + n, x.isAbsent(0, n), BAD);
        }
        promise(30);
        int d = 31 * (31 * (31 * (31 * 7 + 1) + 1) + Long.hashCode(NO)) + 4;
        due("digest", x.digest(), d);
        x.put(0, 0, 0, -1);
        x.run(x.cut(q, 0, 1), 1);
        due("digest of -1", x.digest(), 31 * (31 * 7) + 1);
        x.run(x.group(q, 0), 1);
        due("a ROW without COLUMNS", x.digest(), 7);
        due("its ROWS", x.count(5), 1);
        x.run(x.cut(q, 2, 1), 1);
        due("no ROWS", x.digest(), 7);
    }

    static void looks() {
        fresh(31);
        longs("1,1|1,2|2,3|-,4", 2);
        longs("1,1|1,9|-,3", 2);
        int q = x.source(0);
        int r = x.source(1);
        int like = x.pair(0, 0, 2);
        int other = x.pair(0, 3, 1);
        int inside = x.pair(0, 0, 1);
        int below = x.pair(1, 0, 2);
        int nested = x.logic(0, below, x.logic(0, inside, other));
        // Of the first KEY 4 pairs are LIKE, of the other one 2.
        int[] tests = {like, other, nested, x.logic(0, nested, like), x.logic(0, like, nested), x.logic(1, like, other),
            x.logic(2, like, 0), inside, below, x.logic(0, inside, below)};
        int[] pairs = {4, 2, 2, 2, 4, -1, -1, -1, -1, -1};
        for (int i = 0; i < tests.length; i++) {
            for (int way = 0; way < 4; way += 3) {
                int j = x.join(q, r, tests[i], way);
                int[] want = {7 + 12, 7 + (pairs[i] < 0 ? 12 : 7 + pairs[i]), 7 + (pairs[i] < 0 ? 12 : 14 + pairs[i])};
                for (int plan = 1; plan <= 3; plan++) {
                    x.run(j, plan);
                    due("looks of test " + tests[i] + " by plan " + plan, x.looked(0), want[plan - 1]);
                    due("the plan", x.looked(1), plan);
                }
            }
        }
        x.run(x.where(q, inside), 3);
        due("a where", x.looked(0), 8);
        x.run(x.order(x.once(x.also(q, q)), 0, true), 3);
        due("each needed one once", x.looked(0), 4);
        int self = x.join(q, q, like, 0);
        x.run(self, 2);
        due("a join with itself", x.looked(0), 4 + 8 + 5);
        x.run(x.collect(x.group(x.work(self, 0, 0, 1), 1), 0, 0), 2);
        due("a collect", x.looked(0), 17);
        x.put(0, 1, 0, 2);
        x.run(self, 2);
        due("behind a change", x.looked(0), 17);
        x.put(0, 1, 0, 7);
        x.run(self, 2);
        due("behind another one", x.looked(0), 4 + 8 + 3);
        x.run(self, 3);
        due("by MERGE", x.looked(0), 4 + 16 + 3);
        due("what -1", x.looked(-1), BAD);
        due("what 2", x.looked(2), BAD);
        x.run(99, 1);
        due("a refused run", x.looked(0), 23);
    }

    static void costs() {
        fresh(32);
        longs("1,1|1,2|2,3|-,4|5,5", 2);
        longs("1,1|1,9|-,3", 2);
        int q = x.source(0);
        int r = x.source(1);
        int like = x.pair(0, 0, 2);
        int j = x.join(q, r, like, 0);
        due("PAIRS", x.cost(j, 1), 8 + 15);
        due("KEYS", x.cost(j, 2), 8 + 8 + 5);
        due("MERGE", x.cost(j, 3), 8 + 16 + 5);
        int w = x.where(q, x.compare(0, 0, LONG, 1));
        due("a where", x.cost(w, 1), 10);
        int v = x.join(w, w, x.pair(1, 0, 2), 3);
        due("not KEYED", x.cost(v, 2), 10 + 9);
        due("of a where", x.cost(x.join(w, r, like, 2), 2), 13 + 6 + 3);
        due("twice needed", x.cost(x.also(j, j), 2), 21);
        for (int n : NOT_THERE) {
            due("query " + n, x.cost(n, 1), BAD);
            due("plan " + n, x.cost(j, n), BAD);
        }
        due("plan 0", x.cost(j, 0), BAD);
        due("plan 4", x.cost(j, 4), BAD);
        promise(27);
        x.run(j, 0);
        due("the least COST", x.looked(1), 2);
        x.run(v, 0);
        due("of several the least", x.looked(1), 1);
        int single = x.cut(q, 0, 1);
        int s = x.join(single, single, like, 0);
        due("by PAIRS", x.cost(s, 1), 6);
        x.run(s, 0);
        due("PAIRS are the cheapest", x.looked(1), 1);
        promise(32);
        int a = q;
        for (int i = 0; i < 25; i++) {
            a = x.also(a, a);
        }
        due("great E", x.cost(x.join(a, a, x.pair(1, 0, 2), 0), 3), 5 + 1000000000000L);
        due("great E by KEYS", x.cost(x.join(a, a, like, 0), 2), 5 + 3000000);
    }

    static void expectations() {
        fresh(33);
        longs("1,1|1,2|2,3|-,4|5,5|6,6", 2);
        longs("1,1|1,9|-,3", 2);
        int q = x.source(0);
        int r = x.source(1);
        int like = x.pair(0, 0, 2);
        due("source", x.expected(q), 6);
        x.delete(0, 5);
        due("source behind a delete", x.expected(q), 5);
        due("where", x.expected(x.where(q, x.pair(0, 0, 1))), 3);
        due("group", x.expected(x.group(q, 0)), 3);
        due("group of none", x.expected(x.group(x.source(x.table(1, 0)), 0)), 0);
        due("join by 0", x.expected(x.join(r, q, like, 0)), 5);
        due("join by 1", x.expected(x.join(q, r, like, 1)), 5);
        due("join by 2", x.expected(x.join(r, q, like, 2)), 2);
        due("join by 3", x.expected(x.join(q, r, like, 3)), 3);
        due("cut", x.expected(x.cut(q, 2, 9)), 3);
        due("cut, n", x.expected(x.cut(q, 2, 1)), 1);
        due("cut, behind", x.expected(x.cut(q, 9, 9)), 0);
        due("also", x.expected(x.also(q, r)), 8);
        due("order", x.expected(x.order(q, 0, true)), 5);
        due("once", x.expected(x.once(q)), 5);
        due("work", x.expected(x.work(q, 0, 0, 1)), 5);
        due("work by a TEST", x.expected(x.work(q, 12, x.pair(0, 0, 1), 1)), 5);
        due("collect", x.expected(x.collect(x.group(q, 1), 0, 1)), 3);
        int a = q;
        for (int i = 0; i < 18; i++) {
            a = x.also(a, a);
        }
        due("great", x.expected(a), 1000000);
        due("behind a great one", x.expected(x.cut(a, 1000, 1000)), 1000);
        due("half of a great one", x.expected(x.group(a, 1)), 500000);
        for (int n : NOT_THERE) {
            due("expected(" + n + ")", x.expected(n), BAD);
        }
    }

    // ---- kept results, changes

    static void keeping() {
        fresh(34);
        longs("3|1|2", 1);
        int q = x.source(0);
        int sorted = x.order(q, 0, false);
        due("keep", x.keep(sorted), 0);
        due("again", x.keep(sorted), 1);
        for (int n : NOT_THERE) {
            due("keep(" + n + ")", x.keep(n), BAD);
        }
        promise(35);
        due("kept", x.kept(0), 3);
        dueText("kept", keptRows(0, 1), "1|2|3");
        load(0, "0");
        dueText("behind an insert", keptRows(0, 1), "0|1|2|3");
        x.put(0, 0, 0, -7);
        dueText("behind a put", keptRows(0, 1), "-7|0|1|2");
        x.begin();
        x.delete(0, 1);
        x.transfer(x.cut(q, 0, 1), 0);
        dueText("in a change", keptRows(0, 1), "-7|-7|0|2");
        x.rollback();
        dueText("taken back", keptRows(0, 1), "-7|0|1|2");
        x.fill(0, 56, 1, 2);
        due("behind a fill", x.kept(1), 60);
        int a = x.also(q, q);
        int many = x.keep(x.cut(x.also(a, a), 0, 1));
        due("kept without a look", many, 2);
        due("MUCH", x.kept(many), MUCH);
        for (int n : NOT_THERE) {
            due("kept(" + n + ")", x.kept(n), BAD);
        }
        due("one not yet there", x.kept(3), BAD);
        promise(36);
        due("MUCH", x.keptCell(many, 0, 0), NO);
        for (int record = 10; record < 60; record++) {
            x.delete(0, record);
        }
        due("no longer MUCH", x.kept(many), 1);
        due("its cell", x.keptCell(many, 0, 0), -7);
        x.absent(0, 0, 0);
        due("absent", x.keptCell(many, 0, 0), NO);
        for (int n : NOT_THERE) {
            due("k " + n, x.keptCell(n, 0, 0), NO);
            due("row " + n, x.keptCell(0, n, 0), NO);
            due("column " + n, x.keptCell(0, 0, n), NO);
        }
        promise(34);
        for (int k = 3; k < 8; k++) {
            due("keep", x.keep(q), k);
        }
        due("the ninth", x.keep(q), FULL);
        due("bad and full", x.keep(77), BAD);
        due("count", x.count(4), 8);
        due("nothing was run", x.count(5), 0);
    }

    static void changes() {
        fresh(37);
        longs("1,2|3,4", 2);
        int q = x.source(0);
        due("begin", x.begin(), 1);
        due("again", x.begin(), STATE);
        due("count", x.count(7), 1);
        promise(38);
        x.insert(0);
        x.insert(9);
        x.fill(0, 3, 1, 1);
        x.fill(0, 0, 1, 1);
        x.put(0, 0, 0, 9);
        x.put(0, 0, 9, 9);
        x.absent(0, 0, 1);
        x.absent(0, 0, 9);
        x.delete(0, 1);
        x.delete(0, 1);
        x.transfer(q, 0);
        x.transfer(x.cut(q, 0, 0), 0);
        x.transfer(9, 0);
        x.word(1);
        x.run(q, 1);
        due("commit", x.commit(), 7);
        due("again", x.commit(), STATE);
        due("count", x.count(7), 0);
        due("rollback", x.rollback(), STATE);
        due("it stays", x.value(0, 0, 0), 9);
        x.put(0, 0, 0, 8);
        x.begin();
        due("an empty one", x.commit(), 0);
    }

    static void rollbacks() {
        fresh(39);
        longs("1,2|3,-", 2);
        longs("5", 1);
        int q = x.source(0);
        x.delete(0, 0);
        x.begin();
        load(0, "7,8");
        x.put(0, 1, 0, 9);
        x.put(0, 1, 1, 9);
        x.absent(1, 0, 0);
        x.delete(0, 1);
        x.fill(1, 5, 1, 1);
        x.word(1);
        due("a QUERY in a change", x.source(1), 1);
        x.run(q, 1);
        due("how many", x.rollback(), 8);
        due("again", x.rollback(), STATE);
        due("commit", x.commit(), STATE);
        dueText("the run stays", latest(x), "7,8");
        dueRun("table 0", q, "3,-");
        dueRun("table 1", 1, "5");
        due("records", x.records(1), 1);
        due("one that went before", x.value(0, 0, 0), NO);
        due("words stay", x.count(0), 1);
        due("numbers come back", x.insert(0), 2);
        due("as new", x.value(0, 2, 0), NO);
        due("of the other table", x.insert(1), 1);
        x.begin();
        x.put(1, 0, 0, 6);
        x.commit();
        x.begin();
        due("nothing to take back", x.rollback(), 0);
        due("what was committed", x.value(1, 0, 0), 6);
    }

    static void transfers() {
        fresh(40);
        longs("1,2|-,4", 2);
        longs("", 2);
        tableOf("", LONG, DAY);
        longs("", 1);
        int q = x.source(0);
        due("transfer", x.transfer(x.order(q, 1, true), 1), 2);
        dueRun("its rows", x.source(1), "-,4|1,2");
        due("to itself", x.transfer(q, 0), 2);
        dueRun("its rows", q, "1,2|-,4|1,2|-,4");
        due("another KIND", x.transfer(q, 2), KIND);
        due("fewer columns", x.transfer(q, 3), KIND);
        due("a query without columns", x.transfer(x.group(q, 0), 3), KIND);
        for (int n : NOT_THERE) {
            due("query " + n, x.transfer(n, 0), BAD);
            due("table " + n, x.transfer(q, n), BAD);
        }
        int a = q;
        for (int i = 0; i < 3; i++) {
            a = x.also(a, a);
        }
        due("32", x.transfer(a, 1), 32);
        due("32 more", x.transfer(a, 1), FULL);
        due("none came", x.records(1), 34);
        int b = x.also(x.also(a, a), x.also(a, a));
        due("128 ROWS", x.transfer(b, 1), FULL);
        int c = x.also(b, b);
        due("256 ROWS", x.transfer(c, 1), MUCH);
        due("a cut of them", x.transfer(x.cut(c, 0, 1), 1), MUCH);
        due("MUCH behind KIND", x.transfer(c, 2), KIND);
        x.fill(1, 26, 1, 1);
        due("none of them", x.transfer(x.cut(q, 0, 0), 1), 0);
        due("one too many", x.transfer(x.cut(q, 0, 1), 1), FULL);
        for (int round = 0; round < 2; round++) {
            for (int record = round * 60; record < 60 + round * 60; record++) {
                x.delete(1, record);
            }
            x.fill(1, 60, 1, 1);
        }
        for (int record = 120; record < 180; record++) {
            x.delete(1, record);
        }
        due("beyond 200 ever", x.transfer(a, 1), FULL);
        due("records", x.records(1), 0);
        due("up to 200 ever", x.transfer(x.cut(a, 0, 20), 1), 20);
    }

    static void counts() {
        fresh(41);
        x.word(1);
        x.word(2);
        longs("1,2,3", 3);
        x.compare(3, 0, 0, 0);
        x.pair(0, 0, 0);
        x.pair(0, 0, 0);
        for (int i = 0; i < 4; i++) {
            x.source(0);
        }
        for (int i = 0; i < 5; i++) {
            x.keep(0);
        }
        x.run(x.also(0, x.also(0, 1)), 1);
        x.begin();
        int[] want = {2, 1, 3, 6, 5, 3, 3, 1};
        for (int what = 0; what < 8; what++) {
            due("count(" + what + ")", x.count(what), want[what]);
        }
        for (int n : new int[] {-1, 8, Integer.MIN_VALUE, Integer.MAX_VALUE}) {
            due("count(" + n + ")", x.count(n), BAD);
        }
        promise(42);
        due("clear", x.clear(), 1);
        for (int what = 0; what < 8; what++) {
            due("count(" + what + ")", x.count(what), 0);
        }
        due("cell", x.cell(0, 0), NO);
        due("digest", x.digest(), 7);
        due("looked", x.looked(0), 0);
        due("looked", x.looked(1), 0);
        due("run", x.run(0, 1), BAD);
        due("kept", x.kept(0), BAD);
        due("records", x.records(0), BAD);
        due("commit", x.commit(), STATE);
        due("test", x.logic(2, 0, 0), BAD);
        due("word", x.word(9), 0);
        longs("4", 1);
        due("record", x.value(0, 0, 0), 4);
        due("source", x.source(0), 0);
        dueRun("source", 0, "4");
    }

    public static void main(String[] args) throws IllegalAccessException {
        playAll(PromisesTest.class);
    }
}
