/** The sentences of the promises, call by call, that name a boundary. */
public final class EdgesOfCallsTest {
    /** What count answers of nothing. */
    private static final int[] NOTHING = {0, 0, 0, 0, 0, 0, 0, 0, 0, 0, 0, 0, -1, -1, 0, -1, -1, 0};
    /** A statement of each kind, from 1. */
    private static final String[] KINDS = {"CREATE TABLE xy (z INT)", "CREATE INDEX ON t (a)", "DROP TABLE t",
        "INSERT INTO u VALUES (1)", "INSERT INTO u SELECT a FROM u", "UPDATE t SET a = 1", "DELETE FROM t",
        "SELECT a FROM t",
        "BEGIN", "COMMIT", "ROLLBACK", "SAVEPOINT xy", "ROLLBACK TO xy", "RELEASE xy", "LOCK t SHARE",
        "PREPARE xy AS SELECT a FROM t", "EXECUTE xy", "VACUUM t", "CHECKPOINT"};
    /** A text of each error, from 1. */
    private static final String[] ERRORS = {"SELECT", "SELECT 1" + "+1".repeat(100) + " FROM t",
        "SELECT 1,1,1,1,1,1,1,1,1 FROM t",
        "DROP TABLE x", "SELECT 1 FROM t, t", "SELECT z FROM t", "SELECT a FROM t, u", "SELECT -b FROM t",
        "SELECT a FROM t GROUP BY b",
        "SELECT DISTINCT a FROM t FOR SHARE"};

    public static void main(String[] args) {
        Edges edges = new Edges("Edges of the calls");
        catalogCalls(edges);
        readCalls(edges);
        nodeCalls(edges);
        counts(edges);
        lists(edges);
        names(edges);
        edges.finish();
    }

    private static void catalogCalls(Edges edges) {
        edges.sentence("An empty catalog", EdgesOfCallsTest::emptyCatalog);
        edges.sentence("nothing typed or read", EdgesOfCallsTest::nothingTypedOrRead);
        edges.sentence("The lowest n bytes of v, the highest of them first, come behind the text: true",
            EdgesOfCallsTest::lowestBytes);
        edges.sentence("false if n is not 1 .. 8", EdgesOfCallsTest::typeSizes);
        edges.sentence("or there would be more than 2000", EdgesOfCallsTest::typeRoom);
        edges.sentence("a new table of that name, without columns: its number", EdgesOfCallsTest::newTable);
        edges.sentence("-1 if it is no name (table)", EdgesOfCallsTest::tableNames);
        edges.sentence("or there are 8", EdgesOfCallsTest::tableRoom);
        edges.sentence("-2 if there is one of that name", EdgesOfCallsTest::tableTwice);
        edges.sentence("a new column of that name, with a type: which it is", EdgesOfCallsTest::newColumn);
        edges.sentence("-1 if it is no name (column)", EdgesOfCallsTest::columnNames);
        edges.sentence("there is no such table", EdgesOfCallsTest::columnTables);
        edges.sentence("it has 8", EdgesOfCallsTest::columnRoom);
        edges.sentence("or type is not 1 .. 3", EdgesOfCallsTest::columnTypes);
        edges.sentence("-2 if it has one of that name", EdgesOfCallsTest::columnTwice);
    }

    private static void readCalls(Edges edges) {
        edges.sentence("Takes the text as a statement: its kind", EdgesOfCallsTest::kinds);
        edges.sentence("or the error below 0", EdgesOfCallsTest::errors);
        edges.sentence("What the calls below tell is of it", EdgesOfCallsTest::ofTheLastRead);
        edges.sentence("What the calls below tell is of it (whatever was read before)",
            EdgesOfCallsTest::oneBehindAnother);
        edges.sentence("0 or -1 behind an error as if there were nothing", EdgesOfCallsTest::behindErrors);
    }

    private static void nodeCalls(Edges edges) {
        edges.sentence("for 4 the table, counted within the statement, and the column", EdgesOfCallsTest::places);
        edges.sentence("1 and 2 are -1 where there is none", EdgesOfCallsTest::noOperands);
        edges.sentence("for 3 truth 1 is 1 or 0", EdgesOfCallsTest::truths);
        edges.sentence("for 28 the parameter's number", EdgesOfCallsTest::parameterNumbers);
        edges.sentence("-1 for another what (node)", EdgesOfCallsTest::otherWhats);
        edges.sentence("or no such node", EdgesOfCallsTest::noNodes);
        edges.sentence("The number of a node of kind 1", EdgesOfCallsTest::numbers);
        edges.sentence("the size of a text of kind 2", EdgesOfCallsTest::sizes);
        edges.sentence("0 for others", EdgesOfCallsTest::otherValues);
        edges.sentence("Byte i of the text of a node of kind 2; -1 if there is none", EdgesOfCallsTest::letters);
    }

    private static void counts(Edges edges) {
        edges.sentence("0 how many nodes", EdgesOfCallsTest::countNodes);
        edges.sentence("1 items", EdgesOfCallsTest::countItems);
        edges.sentence("2 groups", EdgesOfCallsTest::countGroups);
        edges.sentence("3 orders", EdgesOfCallsTest::countOrders);
        edges.sentence("4 tables (of FROM; in UPDATE, DELETE 1)", EdgesOfCallsTest::countTables);
        edges.sentence("5 settings", EdgesOfCallsTest::countSettings);
        edges.sentence("6 rows", EdgesOfCallsTest::countRows);
        edges.sentence("7 columns in CREATE TABLE", EdgesOfCallsTest::countColumns);
        edges.sentence("8 the highest parameter", EdgesOfCallsTest::countParameters);
        edges.sentence("9 values in EXECUTE", EdgesOfCallsTest::countValues);
        edges.sentence("10 the mode (LOCK; BEGIN 0, 1, 2; FOR 1 SHARE, 2 UPDATE)", EdgesOfCallsTest::countModes);
        edges.sentence("11 whether DISTINCT", EdgesOfCallsTest::countDistinct);
        edges.sentence("12 the limit (-1 for none, at most 2147483647)", EdgesOfCallsTest::countLimits);
        edges.sentence("13 the node of WHERE (-1 for none)", EdgesOfCallsTest::countWhere);
        edges.sentence("14 the kind in PREPARE (0 in others)", EdgesOfCallsTest::countPrepared);
        edges.sentence("15 the table of kinds 2 .. 7, 15 and 18 (-1 in others; in PREPARE of its statement)",
            EdgesOfCallsTest::countTable);
        edges.sentence("16 the column of kind 2 (else -1)", EdgesOfCallsTest::countColumn);
        edges.sentence("17 whether UNIQUE in kind 2", EdgesOfCallsTest::countUnique);
        edges.sentence("-1 for another what (count)", EdgesOfCallsTest::otherCounts);
    }

    private static void lists(Edges edges) {
        edges.sentence("0 items", EdgesOfCallsTest::listItems);
        edges.sentence("1 groups (nodes)", EdgesOfCallsTest::listGroups);
        edges.sentence("2 orders (the item, from 0, or -1 - it with DESC)", EdgesOfCallsTest::listOrders);
        edges.sentence("3 tables (of the catalog)", EdgesOfCallsTest::listTables);
        edges.sentence("4 columns set, 5 their nodes", EdgesOfCallsTest::listSettings);
        edges.sentence("6 the nodes of rows, one after the other", EdgesOfCallsTest::listRows);
        edges.sentence("7 types of columns in CREATE TABLE, + 10 for NOT NULL, + 20 for UNIQUE",
            EdgesOfCallsTest::listColumns);
        edges.sentence("8 types of parameters 1, 2, .. (0 of one that does not come)",
            EdgesOfCallsTest::listParameters);
        edges.sentence("9 nodes of the values in EXECUTE", EdgesOfCallsTest::listValues);
        edges.sentence("Number i of a list (where all are full)", EdgesOfCallsTest::fullLists);
        edges.sentence("-1 if there is none such (list)", EdgesOfCallsTest::otherLists);
    }

    private static void names(Edges edges) {
        edges.sentence("Byte i of a name: column k of CREATE TABLE", EdgesOfCallsTest::nameColumns);
        edges.sentence("or, for k = -1, that of kinds 1, 12, 13, 14, 16, 17", EdgesOfCallsTest::nameTitles);
        edges.sentence("-1 if there is none (name)", EdgesOfCallsTest::noNames);
    }

    private static void emptyCatalog() {
        Probe probe = new Probe();
        probe.reads(-4, "DROP TABLE t", "SELECT * FROM t", "DELETE FROM t", "VACUUM t");
        for (int table = -1; table <= 8; table++) {
            Probe.due("column of table " + table, probe.column("a", table, 1), -1);
        }
        Probe.due("the first table", probe.table("t"), 0);
        probe.shows("SELECT * FROM t", "");
        Probe.due("the first column", probe.column("a", 0, 1), 0);
    }

    private static void nothingTypedOrRead() {
        Probe.due("read", new Probe().reader.read(), -1);
        Probe.due("table", new Probe().reader.table(), -1);
        Probe probe = new Probe();
        asNothing(probe, "at first");
        Probe.due("there is room for 2000 bytes", probe.type(" ".repeat(2000)), true);
        asNothing(probe, "when something is typed");
    }

    /** What every call below read answers when there is nothing. */
    private static void asNothing(Probe probe, String when) {
        for (int what = 0; what < 4; what++) {
            Probe.due("node 0 " + what + " " + when, probe.reader.node(0, what), -1);
        }
        Probe.due("value " + when, probe.reader.value(0), 0);
        Probe.due("letter " + when, probe.reader.letter(0, 0), -1);
        for (int what = 0; what < NOTHING.length; what++) {
            Probe.due("count " + what + " " + when, probe.reader.count(what), NOTHING[what]);
        }
        for (int which = 0; which < 10; which++) {
            Probe.due("list " + which + " " + when, probe.reader.list(which, 0), -1);
        }
        Probe.due("name -1 " + when, probe.reader.name(-1, 0), -1);
        Probe.due("name 0 " + when, probe.reader.name(0, 0), -1);
    }

    private static void lowestBytes() {
        long v = 0x6162636465666768L;
        for (int n = 1; n <= 8; n++) {
            Probe probe = new Probe();
            Probe.due("type of " + n, probe.reader.type(v, n), true);
            Probe.due("table of " + n, probe.reader.table(), 0);
            Probe.due("its name", probe.table("abcdefgh".substring(8 - n)), -2);
            Probe behind = new Probe();
            behind.type("x");
            behind.reader.type(v, n);
            behind.reader.table();
            Probe.due("behind x", behind.table("x" + "abcdefgh".substring(8 - n)), -2);
        }
        long[] high = {0x61L, 0xFF61L, 0x8000000000000061L, 0xFFFFFFFFFFFFFF61L, 0x7FFFFFFFFFFFFF61L};
        for (long each : high) {
            Probe probe = new Probe();
            Probe.due("type of " + each, probe.reader.type(each, 1), true);
            Probe.due("is a", probe.reader.table(), 0);
            Probe.due("alone", probe.table("a"), -2);
        }
        Probe zeros = new Probe();
        zeros.reader.type('a', 8);
        Probe.due("bytes of 0 are bytes, too", zeros.reader.table(), -1);
        Probe signed = Probe.withTables();
        signed.type("SELECT '");
        signed.reader.type(Long.MIN_VALUE, 8);
        signed.type("' FROM t");
        Probe.due("byte 128 is no letter of a text", signed.reader.read(), -1);
    }

    private static void typeSizes() {
        Probe probe = new Probe();
        probe.type("a");
        for (int n : new int[] {0, -1, -8, 9, 10, 16, 64}) {
            Probe.due("type of " + n, probe.reader.type(0x6262626262626262L, n), false);
        }
        for (int n : Edges.FAR) {
            Probe.due("type of " + n, probe.reader.type(0x6262626262626262L, n), false);
        }
        Probe.due("the text is still a", probe.reader.table(), 0);
        Probe.due("it is", probe.table("a"), -2);
        Probe.due("type of 1", probe.reader.type('b', 1), true);
        Probe.due("type of 8", probe.reader.type(0x6262626262626262L, 8), true);
    }

    private static void typeRoom() {
        for (int n = 1; n <= 8; n++) {
            Probe fits = new Probe();
            fits.type(" ".repeat(2000 - n));
            Probe.due("the last " + n, fits.reader.type(0, n), true);
            Probe.due("then no more", fits.reader.type(0, 1), false);
            Probe over = new Probe();
            over.type("COMMIT" + " ".repeat(1995 - n));
            Probe.due(n + " where there is room for " + (n - 1), over.reader.type(0, n), false);
            Probe.due("nothing of it came", over.reader.read(), 10);
            Probe.due("now there is room", over.reader.type(0, n), true);
        }
    }

    private static void newTable() {
        Probe probe = new Probe();
        String[] names = {"z", "a", "abcdefghijklmnop", "a_", "a0", "m", "n", "o"};
        for (int i = 0; i < names.length; i++) {
            Probe.due("table " + i, probe.table(names[i]), i);
            probe.shows("SELECT * FROM " + names[i], "");
        }
        for (int i = 0; i < names.length; i++) {
            probe.reads(18, "VACUUM " + names[i]);
            Probe.due("number of " + names[i], probe.reader.count(15), i);
        }
    }

    private static void tableNames() {
        Probe probe = new Probe();
        String[] wrongs = {"", " ", "A", "aB", "1", "_", "_a", "a b", " a", "a ", "a.b", "a;", "'a'", "\u0000",
            "a\u0000", "a\u00e9",
            "abcdefghijklmnopq", "a".repeat(32), "a".repeat(33), "a".repeat(2000), "SELECT"};
        for (String wrong : wrongs) {
            Probe.due("table " + wrong, probe.table(wrong), -1);
        }
        Probe.due("none of them came", probe.table("a"), 0);
    }

    private static void tableRoom() {
        Probe probe = new Probe();
        for (int i = 0; i < 7; i++) {
            probe.table("t" + i);
        }
        Probe.due("the eighth", probe.table("x"), 7);
        Probe.due("a ninth", probe.table("y"), -1);
        Probe.due("one that is there", probe.table("x"), -1);
        Probe.due("no name", probe.table("Y"), -1);
        Probe.due("a column of the eighth", probe.column("a", 7, 1), 0);
        Probe.due("a column of a ninth", probe.column("a", 8, 1), -1);
        probe.reads(-4, "DROP TABLE y");
    }

    private static void tableTwice() {
        Probe probe = new Probe();
        Probe.due("abc", probe.table("abc"), 0);
        Probe.due("abc again", probe.table("abc"), -2);
        Probe.due("its start", probe.table("ab"), 1);
        Probe.due("more than it", probe.table("abcd"), 2);
        Probe.due("another end", probe.table("abd"), 3);
        Probe.due("the longest", probe.table("abcdefghijklmnop"), 4);
        Probe.due("with another end", probe.table("abcdefghijklmnoq"), 5);
        Probe.due("the longest again", probe.table("abcdefghijklmnop"), -2);
        Probe.due("a column's name is none", probe.column("xyz", 0, 1), 0);
        Probe.due("xyz", probe.table("xyz"), 6);
        Probe.due("nor is one that was read", probe.read("CREATE TABLE n (a INT)"), 1);
        Probe.due("n", probe.table("n"), 7);
    }

    private static void newColumn() {
        Probe probe = new Probe();
        for (int t = 0; t < 8; t++) {
            probe.table("t" + t);
        }
        for (int t = 7; t >= 0; t--) {
            for (int c = 0; c < 8; c++) {
                Probe.due("column " + c + " of " + t, probe.column("c" + c, t, 1 + (t + c) % 3), c);
            }
        }
        for (int t = 0; t < 8; t++) {
            probe.shows("SELECT c0, c7, c1 FROM t" + t, "0.0 0.7 0.1");
            Probe.due("types of table " + t, probe.types(), "" + (1 + t % 3) + (1 + (t + 7) % 3) + (1 + (t + 1) % 3));
        }
    }

    private static void columnNames() {
        Probe probe = new Probe();
        probe.table("t");
        String[] wrongs = {"", " ", "A", "aB", "1", "_", "_a", "a b", " a", "a ", "t.a", "a;", "\u0000", "a\u0000",
            "a\u00e9",
            "abcdefghijklmnopq", "a".repeat(32), "a".repeat(33), "a".repeat(2000)};
        for (String wrong : wrongs) {
            Probe.due("column " + wrong, probe.column(wrong, 0, 1), -1);
        }
        Probe.due("none of them came", probe.column("a", 0, 1), 0);
    }

    private static void columnTables() {
        Probe probe = Probe.withTables();
        for (int table : new int[] {-1, -2, 4, 5, 7, 8, 9, 64}) {
            Probe.due("column of table " + table, probe.column("z", table, 1), -1);
        }
        for (int table : Edges.FAR) {
            Probe.due("column of table " + table, probe.column("z", table, 1), -1);
        }
        Probe.due("of the last", probe.column("z", 3, 1), 0);
        Probe.due("of the first", probe.column("z", 0, 1), 3);
        probe.table("x");
        Probe.due("of a new one", probe.column("z", 4, 1), 0);
    }

    private static void columnRoom() {
        Probe probe = new Probe();
        probe.make("t", "a1 b1 c1 d1 e1 f1 g1");
        probe.make("u", "");
        Probe.due("the eighth", probe.column("h", 0, 1), 7);
        Probe.due("a ninth", probe.column("i", 0, 1), -1);
        Probe.due("one that is there", probe.column("a", 0, 1), -1);
        Probe.due("another table has room", probe.column("i", 1, 1), 0);
        probe.reads(-6, "SELECT i FROM t");
        probe.shows("SELECT h FROM t", "0.7");
    }

    private static void columnTypes() {
        Probe probe = new Probe();
        probe.table("t");
        for (int type : new int[] {0, -1, -2, 4, 5, 11, 21}) {
            Probe.due("type " + type, probe.column("a", 0, type), -1);
        }
        for (int type : Edges.FAR) {
            Probe.due("type " + type, probe.column("a", 0, type), -1);
        }
        for (int type = 1; type <= 3; type++) {
            Probe.due("type " + type, probe.column("c" + type, 0, type), type - 1);
        }
        probe.reads(8, "SELECT * FROM t");
        Probe.due("types", probe.types(), "123");
    }

    private static void columnTwice() {
        Probe probe = Probe.withTables();
        Probe.due("the first", probe.column("a", 0, 1), -2);
        Probe.due("the last", probe.column("c", 0, 1), -2);
        Probe.due("with no type", probe.column("a", 0, 0), -1);
        Probe.due("in another table", probe.column("c", 1, 1), 1);
        Probe.due("the table's name", probe.column("t", 0, 1), 3);
        Probe.due("its start", probe.column("long_name", 2, 1), 2);
        Probe.due("less", probe.column("long_nam", 2, 1), 3);
        Probe.due("more", probe.column("long_name_", 2, 1), 4);
        Probe.due("the same", probe.column("long_nam", 2, 1), -2);
        probe.reads(8, "SELECT a + 1, b || 'x', NOT c FROM t");
    }

    private static void kinds() {
        for (int i = 0; i < KINDS.length; i++) {
            Probe.each(i + 1, KINDS[i]);
        }
    }

    private static void errors() {
        for (int i = 0; i < ERRORS.length; i++) {
            Probe.each(-1 - i, ERRORS[i]);
        }
    }

    private static void ofTheLastRead() {
        Probe probe = Probe.withTables();
        probe.reads(8, "SELECT DISTINCT 'abc', 7 FROM t WHERE c ORDER BY 2 LIMIT 3");
        probe.reads(12, "SAVEPOINT s");
        Probe.due("nodes", probe.reader.count(0), 0);
        Probe.due("letter", probe.reader.letter(0, 0), -1);
        Probe.due("value", probe.reader.value(1), 0);
        int[] whats = {1, 3, 4, 11, 12, 13};
        for (int what : whats) {
            Probe.due("count " + what, probe.reader.count(what), NOTHING[what]);
        }
        Probe.due("name", probe.name(-1), "s");
        probe.reads(8, "SELECT 5 FROM t");
        Probe.due("no name", probe.name(-1), "");
        probe.type("SELECT 6 FROM t");
        Probe.due("what is typed is not read", probe.reader.value(0), 5);
        probe.reader.table();
        probe.column("n", 0, 1);
        Probe.due("nor is what makes tables and columns", probe.reader.value(0), 5);
    }

    /** All that there is of what was read, but not more than it takes some 200 calls to tell. */
    private static String told(Probe probe) {
        StringBuilder all = new StringBuilder();
        for (int what = 0; what < NOTHING.length; what++) {
            all.append(probe.reader.count(what)).append(' ');
        }
        for (int k = 0; k < Math.min(probe.reader.count(0), 8); k++) {
            for (int what = 0; what < 4; what++) {
                all.append(probe.reader.node(k, what)).append(' ');
            }
        }
        for (int which = 0; which < 10; which++) {
            all.append(probe.list(which, 4)).append(';');
        }
        return all.append(probe.name(-1)).append(probe.name(0)).toString();
    }

    private static void oneBehindAnother() {
        String[] more = {"SELECT * FROM t WHERE a = 1", "CREATE UNIQUE INDEX ON v (e)", "BEGIN SERIALIZABLE",
            "SELECT b FROM t FOR UPDATE",
            "PREPARE p AS UPDATE t SET c = $3, a = $1 WHERE $2",
            "SELECT DISTINCT MIN(a) + 1, 'x' FROM t p GROUP BY b ORDER BY 2 LIMIT 9",
            "EXECUTE q (1, 2 IN (3, 4))", "INSERT INTO v SELECT * FROM v", "UPDATE t SET z = 1",
            "SELECT 'x' = z FROM t",
            "SELECT a FROM t ORDER BY 1,1,1,1,1", "SELECT x.a FROM t, u", "SELECT p.a FROM t p", "SELECT t.a FROM t",
            "CREATE TABLE y (z INT,"};
        String[] texts = new String[KINDS.length + more.length];
        System.arraycopy(KINDS, 0, texts, 0, KINDS.length);
        System.arraycopy(more, 0, texts, KINDS.length, more.length);
        for (String text : texts) {
            Probe alone = Probe.withTables();
            int answer = alone.read(text);
            String want = told(alone);
            for (String before : texts) {
                behind(before, text, answer, want);
            }
            for (String before : ERRORS) {
                behind(before, text, answer, want);
            }
        }
    }

    private static void behind(String before, String text, int answer, String want) {
        Probe probe = Probe.withTables();
        probe.read(before);
        Probe.due("read " + text + " behind " + before, probe.read(text), answer);
        Probe.due(text + " behind " + before, told(probe), want);
    }

    private static void behindErrors() {
        for (String error : ERRORS) {
            Probe probe = Probe.withTables();
            probe.reads(16, "PREPARE p AS SELECT DISTINCT 'x', $3 FROM t WHERE c ORDER BY 1 LIMIT 5");
            probe.read(error);
            asNothing(probe, "behind " + error);
        }
        String[] lates = {"UPDATE t SET a = 1, a = 2 WHERE c", "INSERT INTO t VALUES (1)",
            "CREATE UNIQUE INDEX ON t (z)", "LOCK x SHARE",
            "CREATE TABLE x (a INT, a INT)", "EXECUTE p (1, $1)", "PREPARE p AS SELECT $1 FROM t ORDER BY 2",
            "SAVEPOINT s s",
            "BEGIN SERIALIZABLE READ", "SELECT * FROM t ORDER BY 4"};
        for (String late : lates) {
            Probe probe = Probe.withTables();
            Probe.due("error of " + late, probe.read(late) < 0, true);
            asNothing(probe, "behind " + late);
        }
    }

    private static void places() {
        Probe probe = Probe.withTables();
        probe.shows("SELECT e, t.a, u.a, c FROM u, t, v", "2.1 1.0 0.0 1.2");
        probe.shows("SELECT q.c, p.c FROM t p, t q", "1.2 0.2");
        probe.shows("UPDATE v SET e = e WHERE d = 1", "0.1 0.0 1 17(1,2)");
        probe.shows("DELETE FROM v WHERE d = 1", "0.0 1 17(0,1)");
        probe.shows("SELECT 1 FROM w, u, t GROUP BY b", "1 2.1");
        Probe wide = new Probe();
        wide.make("x", "a1 b1 c1 d1 e1 f1 g1 h1");
        wide.shows("SELECT a, h FROM x", "0.0 0.7");
    }

    /** Operands of a node, of which there are none: -1. */
    private static void operands(Probe probe, int k, int first, int second) {
        Probe.due("first operand of " + k, probe.reader.node(k, 1), first);
        Probe.due("second operand of " + k, probe.reader.node(k, 2), second);
    }

    private static void noOperands() {
        Probe probe = Probe.withTables();
        probe.read("SELECT NULL, 7, 'x', COUNT(*) FROM t");
        for (int k = 0; k < 4; k++) {
            operands(probe, k, -1, -1);
        }
        probe.read("SELECT COUNT(1), SUM(1), MIN(1), MAX(1), -1 FROM t");
        for (int k = 1; k < 10; k += 2) {
            operands(probe, k, k - 1, -1);
        }
        probe.read("SELECT 1 IS NULL, 1 IS NOT NULL, NOT TRUE FROM t");
        for (int k = 1; k < 6; k += 2) {
            operands(probe, k, k - 1, -1);
        }
        probe.read("SELECT 1 + 2, TRUE OR FALSE FROM t");
        operands(probe, 2, 0, 1);
        operands(probe, 5, 3, 4);
    }

    private static void truths() {
        Probe probe = Probe.withTables();
        probe.read("SELECT TRUE, FALSE FROM t");
        operands(probe, 0, 1, -1);
        operands(probe, 1, 0, -1);
    }

    private static void parameterNumbers() {
        Probe probe = Probe.withTables();
        probe.reads(16, "PREPARE p AS SELECT $1, $9, $5, $1 FROM t");
        operands(probe, 0, 1, -1);
        operands(probe, 1, 9, -1);
        operands(probe, 2, 5, -1);
        operands(probe, 3, 1, -1);
    }

    private static void otherWhats() {
        Probe probe = Probe.withTables();
        probe.read("SELECT 1 + 2 FROM t");
        for (int what : new int[] {-1, -2, 4, 5, 100}) {
            Probe.due("node 2 " + what, probe.reader.node(2, what), -1);
        }
        for (int what : Edges.FAR) {
            Probe.due("node 2 " + what, probe.reader.node(2, what), -1);
        }
        Probe.due("node 2 3", probe.reader.node(2, 3), 1);
        Probe.due("node 2 0", probe.reader.node(2, 0), 11);
    }

    private static void noNodes() {
        Probe probe = Probe.withTables();
        probe.read("SELECT 1" + "+1".repeat(50) + " FROM t");
        probe.read("SELECT 1 + 2 FROM t");
        for (int what = 0; what < 4; what++) {
            for (int k : new int[] {-1, -2, 3, 4, 100, 199, 200, 201}) {
                Probe.due("node " + k + " " + what, probe.reader.node(k, what), -1);
            }
            for (int k : Edges.FAR) {
                Probe.due("node " + k + " " + what, probe.reader.node(k, what), -1);
            }
        }
        probe.read("COMMIT");
        Probe.due("node of none", probe.reader.node(0, 0), -1);
    }

    private static void numbers() {
        Probe probe = Probe.withTables();
        probe.read("SELECT 0, 1, 999999999999999999, 000000000000000000, 2147483647, 2147483648, 4294967295, 4294967296"
            + " FROM t");
        long[] want = {0, 1, 999999999999999999L, 0, 2147483647L, 2147483648L, 4294967295L, 4294967296L};
        for (int k = 0; k < want.length; k++) {
            Probe.due("number " + k, probe.reader.value(k), want[k]);
        }
    }

    private static void sizes() {
        Probe probe = Probe.withTables();
        probe.read("SELECT '', 'x', '''', '''''', '" + "x".repeat(31) + "', '" + "''".repeat(31) + "' FROM t");
        long[] want = {0, 1, 1, 2, 31, 31};
        for (int k = 0; k < want.length; k++) {
            Probe.due("size " + k, probe.reader.value(k), want[k]);
        }
    }

    private static void otherValues() {
        Probe probe = Probe.withTables();
        probe.reads(16, "PREPARE p AS SELECT NULL, TRUE, a, $9, -5, COUNT(*), 1 = 1 FROM t GROUP BY a");
        long[] want = {0, 0, 0, 0, 5, 0, 0, 1, 1, 0, 0};
        for (int k = 0; k < want.length; k++) {
            Probe.due("value " + k, probe.reader.value(k), want[k]);
        }
        for (int k : new int[] {-1, 11, 199, 200}) {
            Probe.due("value " + k, probe.reader.value(k), 0);
        }
        for (int k : Edges.FAR) {
            Probe.due("value " + k, probe.reader.value(k), 0);
        }
    }

    private static void letters() {
        Probe probe = Probe.withTables();
        probe.read("SELECT 'it''s', '', '''', 7, b, NULL, '" + "x".repeat(30) + "y' FROM t");
        String[] want = {"it's", "", "'", "", "", "", "x".repeat(30) + "y", ""};
        for (int k = 0; k < want.length; k++) {
            for (int i = 0; i < want[k].length(); i++) {
                Probe.due("letter " + k + " " + i, probe.reader.letter(k, i), want[k].charAt(i));
            }
            Probe.due("before " + k, probe.reader.letter(k, -1), -1);
            Probe.due("behind " + k, probe.reader.letter(k, want[k].length()), -1);
            Probe.due("far behind " + k, probe.reader.letter(k, 32), -1);
            for (int i : Edges.FAR) {
                Probe.due("letter " + k + " " + i, probe.reader.letter(k, i), -1);
            }
        }
        for (int k : Edges.FAR) {
            Probe.due("letter " + k, probe.reader.letter(k, 0), -1);
        }
        Probe.due("letter of -1", probe.reader.letter(-1, 0), -1);
    }

    /** Reads a text that is fine, and counts. */
    private static void counted(int what, String text, int want) {
        Probe probe = Probe.withTables();
        Probe.due("read " + text, probe.read(text) > 0, true);
        Probe.due("count " + what + " of " + text, probe.reader.count(what), want);
    }

    private static void countNodes() {
        counted(0, "COMMIT", 0);
        counted(0, "SELECT * FROM w", 0);
        counted(0, "SELECT 1 FROM t", 1);
        counted(0, "SELECT * FROM t WHERE c", 4);
        counted(0, "SELECT 1 FROM t ORDER BY 1 LIMIT 7", 1);
        counted(0, "SELECT -(1" + "+1".repeat(99) + ") FROM t", 200);
    }

    private static void countItems() {
        counted(1, "SELECT * FROM w", 0);
        counted(1, "SELECT 1 FROM t", 1);
        counted(1, "SELECT 1,1,1,1,1,1,1,1 FROM t", 8);
        counted(1, "SELECT * FROM t, u", 4);
        counted(1, "INSERT INTO u VALUES (1)", 0);
        counted(1, "INSERT INTO v SELECT * FROM v", 2);
    }

    private static void countGroups() {
        counted(2, "SELECT 1 FROM t", 0);
        counted(2, "SELECT 1 FROM t GROUP BY a", 1);
        counted(2, "SELECT 1 FROM t GROUP BY a, b, c, a", 4);
    }

    private static void countOrders() {
        counted(3, "SELECT 1 FROM t", 0);
        counted(3, "SELECT 1 FROM t ORDER BY 1", 1);
        counted(3, "SELECT 1 FROM t ORDER BY 1, 1, 1, 1", 4);
    }

    private static void countTables() {
        counted(4, "SELECT 1 FROM t", 1);
        counted(4, "SELECT 1 FROM t p, t q, t r", 3);
        counted(4, "INSERT INTO u SELECT 1 FROM t, v", 2);
        counted(4, "INSERT INTO u VALUES (1)", 0);
        counted(4, "UPDATE t SET a = 1", 1);
        counted(4, "DELETE FROM t", 1);
        counted(4, "PREPARE p AS DELETE FROM t", 1);
        counted(4, "PREPARE p AS INSERT INTO u VALUES (1)", 0);
        counted(4, "DROP TABLE t", 0);
        counted(4, "CREATE INDEX ON t (a)", 0);
        counted(4, "LOCK t SHARE", 0);
        counted(4, "VACUUM t", 0);
        counted(4, "COMMIT", 0);
    }

    private static void countSettings() {
        counted(5, "UPDATE t SET a = 1", 1);
        counted(5, "UPDATE t SET a = 1, b = 'x', c = TRUE", 3);
        counted(5, "DELETE FROM t", 0);
        counted(5, "CREATE TABLE x (y INT)", 0);
        Probe probe = new Probe();
        probe.make("x", "a1 b1 c1 d1 e1 f1 g1 h1");
        probe.reads(6, "UPDATE x SET a=1,b=1,c=1,d=1,e=1,f=1,g=1,h=1");
        Probe.due("eight settings", probe.reader.count(5), 8);
    }

    private static void countRows() {
        counted(6, "INSERT INTO u VALUES (1)", 1);
        counted(6, "INSERT INTO t VALUES (1, 'x', TRUE), (2, 'y', FALSE)", 2);
        counted(6, "INSERT INTO u VALUES (1)" + ",(1)".repeat(199), 200);
        counted(6, "INSERT INTO u SELECT 1 FROM t", 0);
        counted(6, "EXECUTE p (1)", 0);
    }

    private static void countColumns() {
        counted(7, "CREATE TABLE x (a INT)", 1);
        counted(7, "CREATE TABLE x (a INT,b INT,c INT,d INT,e INT,f INT,g INT,h INT)", 8);
        counted(7, "UPDATE t SET a = 1", 0);
        counted(7, "CREATE INDEX ON t (a)", 0);
    }

    private static void countParameters() {
        counted(8, "SELECT 1 FROM t", 0);
        counted(8, "PREPARE p AS SELECT 1 FROM t", 0);
        counted(8, "PREPARE p AS SELECT $1, $1 FROM t", 1);
        counted(8, "PREPARE p AS SELECT $9 FROM t", 9);
        counted(8, "PREPARE p AS SELECT $4, $7, $2 FROM t", 7);
    }

    private static void countValues() {
        counted(9, "EXECUTE p", 0);
        counted(9, "EXECUTE p (1)", 1);
        counted(9, "EXECUTE p (1 + 2, 3)", 2);
        counted(9, "EXECUTE p (1" + ",1".repeat(199) + ")", 200);
        counted(9, "INSERT INTO u VALUES (1)", 0);
    }

    private static void countModes() {
        counted(10, "LOCK t ACCESS SHARE", 1);
        counted(10, "LOCK t ACCESS EXCLUSIVE", 8);
        counted(10, "BEGIN", 0);
        counted(10, "BEGIN READ COMMITTED", 0);
        counted(10, "BEGIN REPEATABLE READ", 1);
        counted(10, "BEGIN SERIALIZABLE", 2);
        counted(10, "SELECT a FROM t FOR SHARE", 1);
        counted(10, "SELECT a FROM t FOR UPDATE", 2);
        counted(10, "PREPARE p AS SELECT a FROM t FOR UPDATE", 2);
        counted(10, "SELECT a FROM t", 0);
        counted(10, "COMMIT", 0);
        counted(10, "UPDATE t SET a = 1", 0);
    }

    private static void countDistinct() {
        counted(11, "SELECT DISTINCT a FROM t", 1);
        counted(11, "INSERT INTO u SELECT DISTINCT a FROM t", 1);
        counted(11, "SELECT a FROM t", 0);
        counted(11, "DELETE FROM t", 0);
    }

    private static void countLimits() {
        counted(12, "SELECT a FROM t", -1);
        counted(12, "COMMIT", -1);
        counted(12, "SELECT a FROM t LIMIT 0", 0);
        counted(12, "SELECT a FROM t LIMIT 1", 1);
        counted(12, "SELECT a FROM t LIMIT 2147483646", 2147483646);
        counted(12, "SELECT a FROM t LIMIT 2147483647", 2147483647);
        String[] larger = {"2147483648", "4294967295", "4294967296", "4294967297", "9223372036854775",
            "999999999999999999"};
        for (String number : larger) {
            counted(12, "SELECT a FROM t LIMIT " + number, 2147483647);
        }
        counted(12, "PREPARE p AS SELECT a FROM t LIMIT 000000000000000003", 3);
        counted(12, "INSERT INTO u SELECT a FROM t LIMIT 4", 4);
    }

    private static void countWhere() {
        counted(13, "SELECT a FROM t", -1);
        counted(13, "COMMIT", -1);
        counted(13, "DELETE FROM t WHERE c", 0);
        counted(13, "UPDATE t SET a = 1 WHERE c", 1);
        counted(13, "UPDATE t SET a = 1", -1);
        counted(13, "SELECT a, b FROM t WHERE a = 1", 4);
        counted(13, "SELECT * FROM t WHERE c", 0);
        counted(13, "DELETE FROM t WHERE NOT 1" + "+1".repeat(98) + " IS NULL", 198);
        counted(13, "DELETE FROM t WHERE 1" + "+1".repeat(99) + " IS NULL", 199);
    }

    private static void countPrepared() {
        for (int i = 0; i < KINDS.length; i++) {
            counted(14, KINDS[i], i + 1 == 16 ? 8 : 0);
            if (i + 1 >= 4 && i + 1 <= 8) {
                counted(14, "PREPARE p AS " + KINDS[i], i + 1);
            }
        }
    }

    private static void countTable() {
        int[] tables = {-1, 0, 0, 1, 1, 0, 0, -1, -1, -1, -1, -1, -1, -1, 0, -1, -1, 0, -1};
        for (int i = 0; i < KINDS.length; i++) {
            counted(15, KINDS[i], tables[i]);
            if (i + 1 >= 4 && i + 1 <= 8) {
                counted(15, "PREPARE p AS " + KINDS[i], tables[i]);
            }
        }
        counted(15, "DROP TABLE w", 3);
        Probe probe = new Probe();
        for (int t = 0; t < 8; t++) {
            probe.table("t" + t);
        }
        probe.reads(3, "DROP TABLE t7");
        Probe.due("the eighth table", probe.reader.count(15), 7);
    }

    private static void countColumn() {
        counted(16, "CREATE INDEX ON t (a)", 0);
        counted(16, "CREATE INDEX ON t (c)", 2);
        for (int i = 0; i < KINDS.length; i++) {
            counted(16, KINDS[i], i + 1 == 2 ? 0 : -1);
        }
        Probe probe = new Probe();
        probe.make("x", "a1 b1 c1 d1 e1 f1 g1 h1");
        probe.reads(2, "CREATE INDEX ON x (h)");
        Probe.due("the eighth column", probe.reader.count(16), 7);
    }

    private static void countUnique() {
        counted(17, "CREATE UNIQUE INDEX ON t (a)", 1);
        counted(17, "CREATE INDEX ON t (a)", 0);
        counted(17, "CREATE TABLE x (y INT UNIQUE)", 0);
        counted(17, "COMMIT", 0);
    }

    private static void otherCounts() {
        Probe probe = Probe.withTables();
        probe.read("SELECT DISTINCT a FROM t WHERE c LIMIT 3");
        for (int what : new int[] {-1, -2, 18, 19, 32, 100}) {
            Probe.due("count " + what, probe.reader.count(what), -1);
        }
        for (int what : Edges.FAR) {
            Probe.due("count " + what, probe.reader.count(what), -1);
        }
    }

    /** Reads a text that is fine: a list has these entries, and none before or behind them. */
    private static void listed(int which, String text, String want) {
        Probe probe = Probe.withTables();
        Probe.due("read " + text, probe.read(text) > 0, true);
        int size = want.isEmpty() ? 0 : want.split(" ").length;
        Probe.due("list " + which + " of " + text, probe.list(which, size), want);
        Probe.due("before", probe.reader.list(which, -1), -1);
        Probe.due("behind", probe.reader.list(which, size), -1);
        for (int i : Edges.FAR) {
            Probe.due("entry " + i, probe.reader.list(which, i), -1);
        }
    }

    private static String upTo(int n) {
        StringBuilder all = new StringBuilder("0");
        for (int i = 1; i < n; i++) {
            all.append(' ').append(i);
        }
        return all.toString();
    }

    private static void listItems() {
        listed(0, "SELECT 1 FROM t", "0");
        listed(0, "SELECT 1 + 2, 3 FROM t", "2 3");
        listed(0, "SELECT 1,1,1,1,1,1,1,1 FROM t", "0 1 2 3 4 5 6 7");
        listed(0, "SELECT * FROM v, t WHERE c", "1 2 3 4 5");
        listed(0, "SELECT * FROM w", "");
        listed(0, "COMMIT", "");
    }

    private static void listGroups() {
        listed(1, "SELECT 1 FROM t", "");
        listed(1, "SELECT 1 FROM t GROUP BY a", "1");
        listed(1, "SELECT 1 FROM t WHERE c GROUP BY a, b, c, a", "2 3 4 5");
    }

    private static void listOrders() {
        listed(2, "SELECT 1 FROM t", "");
        listed(2, "SELECT 1 FROM t ORDER BY 1", "0");
        listed(2, "SELECT 1 FROM t ORDER BY 1 DESC", "-1");
        listed(2, "SELECT 1,1,1,1,1,1,1,1 FROM t ORDER BY 8, 8 DESC, 1, 1 DESC", "7 -8 0 -1");
        listed(2, "SELECT * FROM t ORDER BY 3 DESC", "-3");
    }

    private static void listTables() {
        listed(3, "SELECT 1 FROM t", "0");
        listed(3, "SELECT 1 FROM w, v, u", "3 2 1");
        listed(3, "SELECT 1 FROM v p, v q", "2 2");
        listed(3, "UPDATE v SET d = 1", "2");
        listed(3, "DELETE FROM w", "3");
        listed(3, "INSERT INTO u VALUES (1)", "");
        listed(3, "INSERT INTO u SELECT 1 FROM w", "3");
        listed(3, "DROP TABLE t", "");
        Probe probe = new Probe();
        for (int t = 0; t < 8; t++) {
            probe.table("t" + t);
        }
        probe.reads(8, "SELECT 1 FROM t7, t0");
        Probe.due("the eighth and the first", probe.list(3, 2), "7 0");
    }

    private static void listSettings() {
        listed(4, "UPDATE t SET a = 1", "0");
        listed(5, "UPDATE t SET a = 1", "0");
        listed(4, "UPDATE t SET c = TRUE, a = 1 + 2, b = 'x'", "2 0 1");
        listed(5, "UPDATE t SET c = TRUE, a = 1 + 2, b = 'x'", "0 3 4");
        listed(4, "DELETE FROM t", "");
        listed(5, "DELETE FROM t", "");
        Probe probe = new Probe();
        probe.make("x", "a1 b1 c1 d1 e1 f1 g1 h1");
        probe.reads(6, "UPDATE x SET h=1,g=1,f=1,e=1,d=1,c=1,b=1,a=1");
        Probe.due("eight columns", probe.list(4, 9), "7 6 5 4 3 2 1 0 -1");
        Probe.due("their nodes", probe.list(5, 9), "0 1 2 3 4 5 6 7 -1");
    }

    private static void listRows() {
        listed(6, "INSERT INTO u VALUES (1)", "0");
        listed(6, "INSERT INTO v VALUES (1, 'x'), (2 + 3, 'y')", "0 1 4 5");
        listed(6, "INSERT INTO u VALUES (1)" + ",(1)".repeat(199), upTo(200));
        listed(6, "INSERT INTO u SELECT 1 FROM t", "");
    }

    private static void listColumns() {
        listed(7, "CREATE TABLE x (a INT, b TEXT, c BOOL)", "1 2 3");
        listed(7, "CREATE TABLE x (a INT NOT NULL, b TEXT NOT NULL, c BOOL NOT NULL)", "11 12 13");
        listed(7, "CREATE TABLE x (a INT UNIQUE, b TEXT UNIQUE, c BOOL UNIQUE)", "21 22 23");
        listed(7, "CREATE TABLE x (a INT NOT NULL UNIQUE, b TEXT NOT NULL UNIQUE, c BOOL NOT NULL UNIQUE)", "31 32 33");
        listed(7, "CREATE TABLE x (a INT,b INT,c INT,d INT,e INT,f INT,g INT,h BOOL)", "1 1 1 1 1 1 1 3");
        listed(7, "COMMIT", "");
    }

    private static void listParameters() {
        listed(8, "PREPARE p AS SELECT 1 FROM t", "");
        listed(8, "PREPARE p AS SELECT -$1 FROM t", "1");
        listed(8, "PREPARE p AS SELECT NOT $9, $2 FROM t", "0 2 0 0 0 0 0 0 3");
        listed(8, "PREPARE p AS SELECT $1,$2,$3,$4,$5,$6,$7 FROM t WHERE $8 AND $9", "2 2 2 2 2 2 2 3 3");
    }

    private static void listValues() {
        listed(9, "EXECUTE p", "");
        listed(9, "EXECUTE p (1)", "0");
        listed(9, "EXECUTE p (1 + 2, 3, -4)", "2 3 5");
        listed(9, "EXECUTE p (1" + ",1".repeat(199) + ")", upTo(200));
    }

    /** Reads a text that is fine, of which these lists (which, then entries) are full. */
    private static void full(Probe probe, String text, String... lists) {
        Probe.due("read " + text, probe.read(text) > 0, true);
        for (String list : lists) {
            int which = list.charAt(0) - '0';
            String want = list.substring(2);
            Probe.due("list " + which + " of " + text, probe.list(which, want.split(" ").length), want);
        }
    }

    private static void fullLists() {
        full(Probe.withTables(), "SELECT p.a,p.b,p.c,q.a,p.a,p.b,p.c,q.a FROM t p, t q, w"
            + " GROUP BY p.a, p.b, p.c, q.a ORDER BY 8, 7, 6, 5",
            "0 0 1 2 3 4 5 6 7", "1 8 9 10 11", "2 7 6 5 4", "3 0 0 3");
        Probe wide = new Probe();
        wide.make("y", "");
        wide.make("x", "a1 b1 c1 d1 e1 f1 g1 h1");
        full(wide, "PREPARE p AS UPDATE x SET a=$1,h=$2,g=$3,f=$4,e=$5,d=$6,c=$7,b=$8 WHERE $9", "3 1",
            "4 0 7 6 5 4 3 2 1",
            "5 0 1 2 3 4 5 6 7", "8 1 1 1 1 1 1 1 1 3");
        full(wide, "PREPARE p AS INSERT INTO x VALUES ($1,$2,$3,$4,$5,$6,$7,$8),($9,9,9,9,9,9,9,9)",
            "6 0 1 2 3 4 5 6 7 8 9 10 11 12 13 14 15", "8 1 1 1 1 1 1 1 1 1");
        Probe rows = new Probe();
        rows.make("x", "a1");
        full(rows, "PREPARE p AS INSERT INTO x VALUES (1)" + ",(1)".repeat(198) + ",($9)", "6 " + upTo(200),
            "8 0 0 0 0 0 0 0 0 1");
        full(new Probe(), "CREATE TABLE x (a INT,b INT,c INT,d INT,e INT,f INT,g INT,h TEXT UNIQUE)",
            "7 1 1 1 1 1 1 1 22");
        full(new Probe(), "EXECUTE p (1" + ",1".repeat(199) + ")", "9 " + upTo(200));
    }

    private static void otherLists() {
        String[] texts = {"SELECT 1, 2 FROM t p, u ORDER BY 1", "UPDATE t SET a = 1, b = 'x'",
            "INSERT INTO v VALUES (1, 'x'), (2, 'y')",
            "CREATE TABLE x (y INT, z INT)", "EXECUTE p (1, 2)", "PREPARE p AS SELECT $2 FROM t"};
        for (String text : texts) {
            Probe probe = Probe.withTables();
            probe.read(text);
            for (int which : new int[] {-1, -2, 10, 11, 12, 13, 14, 15, 100}) {
                Probe.due("list " + which + " of " + text, probe.reader.list(which, 0), -1);
            }
            for (int which : Edges.FAR) {
                Probe.due("list " + which + " of " + text, probe.reader.list(which, 0), -1);
            }
        }
    }

    private static void nameColumns() {
        Probe probe = Probe.withTables();
        probe.reads(1, "CREATE TABLE x (a INT,b1 INT,c_ INT,d INT,e INT,f INT,g INT,abcdefghijklmnop INT)");
        String[] want = {"a", "b1", "c_", "d", "e", "f", "g", "abcdefghijklmnop", ""};
        for (int k = 0; k < want.length; k++) {
            Probe.due("column " + k, probe.name(k), want[k]);
        }
    }

    private static void nameTitles() {
        for (int i = 0; i < KINDS.length; i++) {
            Probe probe = Probe.withTables();
            probe.read(KINDS[i]);
            int kind = i + 1;
            boolean named = kind == 1 || kind >= 12 && kind <= 14 || kind == 16 || kind == 17;
            Probe.due("name of " + KINDS[i], probe.name(-1), named ? "xy" : "");
        }
        Probe probe = Probe.withTables();
        probe.read("SAVEPOINT abcdefghijklmnop");
        Probe.due("the longest", probe.name(-1), "abcdefghijklmnop");
        probe.read("RELEASE z");
        Probe.due("the shortest", probe.name(-1), "z");
    }

    private static void noNames() {
        Probe probe = Probe.withTables();
        probe.read("CREATE TABLE xyz (ab INT, c INT)");
        int[] sizes = {3, 2, 1};
        for (int k = -1; k < 2; k++) {
            Probe.due("before " + k, probe.reader.name(k, -1), -1);
            Probe.due("the last of " + k, probe.reader.name(k, sizes[k + 1] - 1) >= 'a', true);
            Probe.due("behind " + k, probe.reader.name(k, sizes[k + 1]), -1);
            Probe.due("byte 16 of " + k, probe.reader.name(k, 16), -1);
            for (int i : Edges.FAR) {
                Probe.due("byte " + i + " of " + k, probe.reader.name(k, i), -1);
            }
        }
        for (int k : new int[] {-2, -3, 2, 3, 7, 8, 200}) {
            Probe.due("name " + k, probe.reader.name(k, 0), -1);
        }
        for (int k : Edges.FAR) {
            Probe.due("name " + k, probe.reader.name(k, 0), -1);
        }
        probe.read("UPDATE t SET a = 1");
        Probe.due("a column that is set", probe.reader.name(0, 0), -1);
        probe.read("SAVEPOINT s");
        Probe.due("a column where there is none", probe.reader.name(0, 0), -1);
        probe.read("SAVEPOINT abcdefghijklmnop");
        Probe.due("behind the longest", probe.reader.name(-1, 16), -1);
    }
}
