/** The sentences of "Terms" before its errors that name a boundary: text, tokens, statements, E, nodes. */
public final class EdgesOfTermsTest {
    private static final String LONG_NAME = "abcdefghijklmnop";
    private static final String SIGNS = "(),.;*=<>+-/%";

    public static void main(String[] args) {
        Edges edges = new Edges("Edges of the terms");
        texts(edges);
        tokens(edges);
        statements(edges);
        expressions(edges);
        nodes(edges);
        edges.finish();
    }

    private static void texts(Edges edges) {
        edges.sentence("used for at most 512 calls after it has been made", EdgesOfTermsTest::calls);
        edges.sentence("TEXT is what was typed, at most 2000 bytes", EdgesOfTermsTest::textSize);
        edges.sentence("a call that TAKES it makes it empty", EdgesOfTermsTest::taken);
        edges.sentence("a small letter a .. z, then small letters, digits and _", EdgesOfTermsTest::nameLetters);
        edges.sentence("16 at most", EdgesOfTermsTest::nameSize);
        edges.sentence("The CATALOG has at most 8 TABLES", EdgesOfTermsTest::tables);
        edges.sentence("and at most 8 COLUMNS", EdgesOfTermsTest::columns);
        edges.sentence("a TYPE: 1 INT, 2 TEXT, 3 BOOL", EdgesOfTermsTest::types);
        edges.sentence("A call that is refused changes nothing", EdgesOfTermsTest::refusals);
    }

    private static void tokens(Edges edges) {
        edges.sentence("WORDS (capital letters)", EdgesOfTermsTest::words);
        edges.sentence("NUMBERS (1 .. 18 digits)", EdgesOfTermsTest::numbers);
        edges.sentence("TEXTS (between ' and ', each a byte 32 .. 126", EdgesOfTermsTest::textBytes);
        edges.sentence("with '' for ', at most 31 then", EdgesOfTermsTest::textTokenSize);
        edges.sentence("PARAMETERS ($ and one digit 1 .. 9)", EdgesOfTermsTest::parameters);
        edges.sentence("SIGNS ( ) , . ; * = <> < <= > >= + - / % ||", EdgesOfTermsTest::signs);
        edges.sentence("The longest that can stand at a place does", EdgesOfTermsTest::longest);
        edges.sentence("Blanks (32) between them as one likes, also none", EdgesOfTermsTest::blanks);
        edges.sentence("What is no token", EdgesOfTermsTest::noTokens);
        edges.sentence("a word that is not written below among them, is a fault of syntax", EdgesOfTermsTest::noWords);
    }

    private static void statements(Edges edges) {
        edges.sentence("perhaps with one ; at its end", EdgesOfTermsTest::ends);
        edges.sentence("[ ] may be there", EdgesOfTermsTest::options);
        edges.sentence("{ } any number of times, also none", EdgesOfTermsTest::rows);
        edges.sentence("s of kind 4 .. 8", EdgesOfTermsTest::preparable);
        edges.sentence("mode: 1 ACCESS SHARE, .. 8 ACCESS EXCLUSIVE", EdgesOfTermsTest::modes);
    }

    private static void expressions(Edges edges) {
        edges.sentence("E, from what binds least: OR; AND; NOT before; .. *, / and %; - before",
            EdgesOfTermsTest::binding);
        edges.sentence("one COMPARISON", EdgesOfTermsTest::oneComparison);
        edges.sentence("whose sides, x and y among them, are of what binds more", EdgesOfTermsTest::sides);
        edges.sentence("of two operands each from the left", EdgesOfTermsTest::fromTheLeft);
        edges.sentence("in items alone, COUNT ( * ), ..", EdgesOfTermsTest::itemsAlone);
        edges.sentence("at most 20 deep: each ( ) around it", EdgesOfTermsTest::brackets);
        edges.sentence("those of COUNT, SUM, MIN, MAX, IN too", EdgesOfTermsTest::otherBrackets);
        edges.sentence("each NOT and - before it", EdgesOfTermsTest::signsBefore);
        edges.sentence("What holds a place of E", EdgesOfTermsTest::whatDoesNotHold);
    }

    private static void nodes(Edges edges) {
        edges.sentence("NODES are numbered from 0 as they are made", EdgesOfTermsTest::nodeNumbers);
        edges.sentence("their kinds: 0 NULL, .. 28 parameter", EdgesOfTermsTest::nodeKinds);
        edges.sentence("x BETWEEN a AND b is x, a, >=, x again (its nodes anew), b, <=, AND",
            EdgesOfTermsTest::between);
        edges.sentence("x IN (a, b, ..) is x, a, =, x again, b, =, OR, ..", EdgesOfTermsTest::among);
        edges.sentence("with NOT there is NOT behind that", EdgesOfTermsTest::notBehind);
        edges.sentence("those of * behind all others", EdgesOfTermsTest::starBehind);
    }

    private static void calls() {
        Probe probe = new Probe();
        for (int i = 0; i < 255; i++) {
            probe.reader.type(' ', 1);
            Probe.due("read " + i, probe.reader.read(), -1);
        }
        Probe.due("call 511", probe.reader.type('a', 1), true);
        Probe.due("call 512", probe.reader.table(), 0);
    }

    private static void textSize() {
        Probe first = new Probe();
        Probe.due("2000 bytes", first.type("COMMIT" + " ".repeat(1994)), true);
        Probe.due("one more", first.reader.type(' ', 1), false);
        Probe.due("it is read", first.reader.read(), 10);
        Probe last = new Probe();
        Probe.due("2000 bytes", last.type(" ".repeat(1994) + "COMMIT"), true);
        Probe.due("eight more", last.reader.type(0, 8), false);
        Probe.due("it is read to its end", last.reader.read(), 10);
        Probe wrong = new Probe();
        wrong.type("COMMIT" + " ".repeat(1993) + "x");
        Probe.due("its last byte counts", wrong.reader.read(), -1);
        Probe full = new Probe();
        full.type("1".repeat(2000));
        Probe.due("2000 digits are no name", full.reader.table(), -1);
        Probe.due("nor are they there any more", full.read("COMMIT"), 10);
        Probe dense = new Probe();
        dense.type("-".repeat(2000));
        Probe.due("2000 tokens", dense.reader.read(), -1);
        Probe open = new Probe();
        open.type("SELECT '" + "x".repeat(1992));
        Probe.due("a text without an end", open.reader.read(), -1);
    }

    private static void taken() {
        Probe probe = Probe.withTables();
        probe.table("x");
        empty(probe, "a table");
        probe.table("x");
        empty(probe, "a table that is there");
        probe.table("X");
        empty(probe, "a table without a name");
        probe.column("x", 0, 1);
        empty(probe, "a column");
        probe.column("x", 0, 1);
        empty(probe, "a column that is there");
        probe.column("X", 0, 1);
        empty(probe, "a column without a name");
        probe.column("y", 8, 1);
        empty(probe, "a column of no table");
        probe.column("y", 0, 4);
        empty(probe, "a column of no type");
        probe.read("COMMIT");
        empty(probe, "a statement");
        probe.read("DROP TABLE zz");
        empty(probe, "an error");
        probe.read("#");
        empty(probe, "no token");
    }

    private static void empty(Probe probe, String behind) {
        Probe.due("nothing is left behind " + behind, probe.read("COMMIT"), 10);
        Probe.due("nothing is left of it", probe.reader.read(), -1);
    }

    private static void nameLetters() {
        for (int b = 0; b < 256; b++) {
            boolean small = b >= 'a' && b <= 'z';
            boolean later = small || b >= '0' && b <= '9' || b == '_';
            String letter = "" + (char) b;
            Probe.due("table of byte " + b, new Probe().table(letter), small ? 0 : -1);
            Probe.due("table of a and byte " + b, new Probe().table("a" + letter), later ? 0 : -1);
            Probe.due("table of a, byte " + b + ", a", new Probe().table("a" + letter + "a"), later ? 0 : -1);
            Probe probe = Probe.withTables();
            Probe.due("column of byte " + b, probe.column(letter, 3, 1), small ? 0 : -1);
            Probe.due("column of z and byte " + b, probe.column("z" + letter, 1, 1), later ? 1 : -1);
            Probe.due("name of byte " + b, probe.read("SAVEPOINT " + letter), small ? 12 : -1);
            boolean end = later || b == ' ' || b == ';';
            Probe.due("name of z and byte " + b, probe.read("SAVEPOINT z" + letter), end ? 12 : -1);
        }
    }

    private static void nameSize() {
        Probe probe = Probe.withTables();
        Probe.due("table of none", probe.table(""), -1);
        Probe.due("table of 17", probe.table(LONG_NAME + "q"), -1);
        Probe.due("table of 16", probe.table(LONG_NAME), 4);
        Probe.due("table of 1", probe.table("z"), 5);
        Probe.due("table of 32", probe.table("z".repeat(32)), -1);
        Probe.due("table of 33", probe.table("z".repeat(33)), -1);
        Probe.due("column of none", probe.column("", 0, 1), -1);
        Probe.due("column of 17", probe.column(LONG_NAME + "q", 0, 1), -1);
        Probe.due("column of 16", probe.column(LONG_NAME, 0, 1), 3);
        Probe.due("column of 1", probe.column("z", 0, 1), 4);
        Probe.due("column of 33", probe.column("z".repeat(33), 3, 1), -1);
        probe.reads(18, "VACUUM " + LONG_NAME, "VACUUM z");
        probe.reads(8, "SELECT " + LONG_NAME + ", z FROM t");
        probe.reads(-1, "SAVEPOINT " + LONG_NAME + "q", "SAVEPOINT " + "z".repeat(32), "SAVEPOINT " + "z".repeat(33),
            "SAVEPOINT " + "z".repeat(48), "SAVEPOINT z" + "9".repeat(16), "SAVEPOINT z" + "_".repeat(16));
        probe.reads(12, "SAVEPOINT z" + "9".repeat(15), "SAVEPOINT z" + "_".repeat(15));
        // A name that is too long is not a name with a second one behind it.
        probe.reads(-1, "SELECT 1 FROM " + LONG_NAME + "q");
        probe.reads(8, "SELECT 1 FROM " + LONG_NAME + " q");
    }

    private static void tables() {
        Probe probe = new Probe();
        for (int i = 0; i < 8; i++) {
            Probe.due("table " + i, probe.table("t" + i), i);
        }
        Probe.due("a ninth", probe.table("t8"), -1);
        Probe.due("a tenth", probe.table("t9"), -1);
        for (int i = 0; i < 8; i++) {
            probe.reads(3, "DROP TABLE t" + i);
            Probe.due("its number", probe.reader.count(15), i);
        }
        probe.reads(-4, "DROP TABLE t8", "DROP TABLE t9");
    }

    private static void columns() {
        Probe probe = new Probe();
        probe.table("t");
        probe.table("u");
        for (int i = 0; i < 8; i++) {
            Probe.due("column " + i, probe.column("c" + i, 0, 1), i);
        }
        Probe.due("a ninth", probe.column("c8", 0, 1), -1);
        for (int i = 0; i < 8; i++) {
            probe.shows("SELECT c" + i + " FROM t", "0." + i);
        }
        probe.reads(-6, "SELECT c8 FROM t");
        Probe.due("the next table has room", probe.column("c8", 1, 1), 0);
        probe.shows("SELECT c8 FROM u", "0.0");
    }

    private static void types() {
        Probe probe = new Probe();
        probe.table("t");
        Probe.due("type 0", probe.column("z", 0, 0), -1);
        Probe.due("type 1", probe.column("a", 0, 1), 0);
        Probe.due("type 2", probe.column("b", 0, 2), 1);
        Probe.due("type 3", probe.column("c", 0, 3), 2);
        Probe.due("type 4", probe.column("z", 0, 4), -1);
        probe.reads(8, "SELECT a + 1, b || 'x', NOT c FROM t");
        probe.reads(-8, "SELECT a || 'x' FROM t", "SELECT b + 1 FROM t", "SELECT c + 1 FROM t", "SELECT NOT a FROM t");
        probe.reads(1, "CREATE TABLE x (a INT, b TEXT, c BOOL)");
        Probe.due("types as words", probe.list(7, 3), "1 2 3");
    }

    private static void refusals() {
        Probe probe = Probe.withTables();
        probe.read("PREPARE p AS SELECT 'it''s', a + 9 FROM t WHERE c LIMIT 4");
        String before = told(probe);
        probe.type("z");
        Probe.due("type of 0", probe.reader.type('y', 0), false);
        Probe.due("type of 9", probe.reader.type('y', 9), false);
        Probe.due("the text is still z", probe.reader.table(), 4);
        Probe.due("table that is there", probe.table("z"), -2);
        Probe.due("table of no name", probe.table("Z"), -1);
        Probe.due("column that is there", probe.column("a", 0, 3), -2);
        Probe.due("column of no name", probe.column("A", 0, 1), -1);
        Probe.due("column of no table", probe.column("y", 5, 1), -1);
        Probe.due("column of no type", probe.column("y", 0, 4), -1);
        Probe.due("node", probe.reader.node(-1, 9), -1);
        Probe.due("letter", probe.reader.letter(0, 99), -1);
        Probe.due("count", probe.reader.count(99), -1);
        Probe.due("list", probe.reader.list(99, 0), -1);
        Probe.due("name", probe.reader.name(9, 0), -1);
        Probe.due("what was read", told(probe), before);
        Probe.due("the next table", probe.table("y"), 5);
        Probe.due("the next column", probe.column("y", 0, 1), 3);
        probe.shows("SELECT * FROM t", "0.0 0.1 0.2 0.3");
        Probe.due("types of its columns", probe.types(), "1231");
        probe.reads(-6, "SELECT a FROM z", "SELECT a FROM y");
    }

    private static String told(Probe probe) {
        StringBuilder all = new StringBuilder(probe.nodes()).append(probe.types()).append(probe.name(-1));
        for (int what = 0; what < 18; what++) {
            all.append(' ').append(probe.reader.count(what));
        }
        return all.append(probe.list(0, 2)).append(probe.list(3, 1)).toString();
    }

    private static void words() {
        Probe.each(10, "COMMIT");
        Probe.each(-1, "commit", "Commit", "cOMMIT", "COMMIt", "COMMI", "OMMIT", "COMMITT", "COMMIT1", "COMMIT_",
            "@COMMIT", "COMMIT@", "[COMMIT", "COMMIT[", "COMMI@", "COMMI[", "COM MIT", "COM_MIT", "COMMIT\u0000");
        Probe.each(-1, "COMMIT" + "T".repeat(32), "COMMIT" + "A".repeat(31), "COMMIT" + "Z".repeat(64));
    }

    private static void numbers() {
        String most = "9".repeat(18);
        Probe probe = Probe.withTables();
        probe.shows("SELECT 0, 9, " + most + ", " + "0".repeat(18) + " FROM t", "0 9 " + most + " 0");
        probe.shows("SELECT " + "0".repeat(17) + "7, 123456789012345678 FROM t", "7 123456789012345678");
        probe.reads(8, "SELECT a FROM t LIMIT " + most, "SELECT a FROM t ORDER BY " + "0".repeat(17) + "1");
        String[] longs = {"1" + "0".repeat(18), "0".repeat(19), "0".repeat(18) + "1", "9".repeat(19), "9".repeat(32),
            "0".repeat(32) + "1", "0".repeat(50)};
        for (String number : longs) {
            Probe.each(-1, "SELECT " + number + " FROM t", "SELECT a FROM t LIMIT " + number,
                "SELECT a FROM t ORDER BY " + number);
        }
        Probe.each(-1, "SELECT a FROM t LIMIT", "SELECT a FROM t ORDER BY", "SELECT / FROM t", "SELECT : FROM t",
            "SELECT 1/ FROM t", "SELECT 1: FROM t");
    }

    private static void textBytes() {
        for (int b = 0; b < 256; b++) {
            boolean fine = b >= 32 && b <= 126;
            String letter = b == '\'' ? "''" : "" + (char) b;
            Probe probe = Probe.withTables();
            Probe.due("byte " + b, probe.read("SELECT '" + letter + "' FROM t"), fine ? 8 : -1);
            Probe.due("letter " + b, probe.reader.letter(0, 0), fine ? b : -1);
            Probe.due("byte " + b + " between", probe.read("SELECT 'a" + letter + "b' FROM t"), fine ? 8 : -1);
        }
        Probe.each(8, "SELECT '' FROM t", "SELECT'a'FROM t");
        Probe.each(-1, "SELECT ' FROM t", "SELECT 'a FROM t", "SELECT a' FROM t", "SELECT '", "'", "''");
    }

    private static void textTokenSize() {
        String[] inside = {"", "a", "''", "''''", "a''", "''a", "a''b", "x".repeat(30) + "''", "''".repeat(31),
            "x".repeat(31), " ".repeat(31), "''" + "x".repeat(29) + "''"};
        int[] sizes = {0, 1, 1, 2, 2, 2, 3, 31, 31, 31, 31, 31};
        for (int i = 0; i < inside.length; i++) {
            Probe probe = Probe.withTables();
            probe.reads(8, "SELECT '" + inside[i] + "' FROM t");
            Probe.due("size of '" + inside[i] + "'", probe.reader.value(0), sizes[i]);
        }
        Probe.each(-1, "SELECT '" + "x".repeat(32) + "' FROM t", "SELECT '" + "''".repeat(32) + "' FROM t",
            "SELECT '" + "x".repeat(31) + "''' FROM t", "SELECT '''" + "x".repeat(31) + "' FROM t",
            "SELECT '" + "x".repeat(33) + "' FROM t", "SELECT '" + "x".repeat(63) + "' FROM t",
            "SELECT '" + "x".repeat(64) + "' FROM t", "SELECT ''' FROM t", "SELECT ''''' FROM t");
    }

    private static void parameters() {
        for (int b = 0; b < 256; b++) {
            boolean fine = b >= '1' && b <= '9';
            Probe probe = Probe.withTables();
            Probe.due("$ and byte " + b, probe.read("PREPARE p AS SELECT $" + (char) b + " FROM t"), fine ? 16 : -1);
            Probe.due("its number", probe.reader.node(0, 1), fine ? b - '0' : -1);
        }
        Probe.each(-1, "PREPARE p AS SELECT $10 FROM t", "PREPARE p AS SELECT $11 FROM t",
            "PREPARE p AS SELECT $01 FROM t", "PREPARE p AS SELECT $ 1 FROM t", "PREPARE p AS SELECT $$1 FROM t",
            "PREPARE p AS SELECT 1 FROM t LIMIT $1", "PREPARE p AS SELECT $");
    }

    private static void signs() {
        Probe probe = Probe.withTables();
        probe.shows("SELECT(a)+1-1*1/1%1,t.b||'x'FROM t;", "0.0 1 11(0,1) 1 1 13(3,4) 1 14(5,6) 1 15(7,8) 12(2,9) "
            + "0.1 'x' 16(11,12)");
        probe.shows("SELECT a=1,a<>1,a<1,a<=1,a>1,a>=1 FROM t", "0.0 1 17(0,1) 0.0 1 18(3,4) 0.0 1 19(6,7) "
            + "0.0 1 20(9,10) 0.0 1 21(12,13) 0.0 1 22(15,16)");
        Probe.each(-1, "SELECT b|b FROM t", "SELECT b|||b FROM t", "SELECT b||||b FROM t", "SELECT a!=1 FROM t",
            "SELECT a==1 FROM t", "SELECT a=>1 FROM t", "SELECT a=<1 FROM t", "SELECT a><1 FROM t",
            "SELECT a<<1 FROM t", "SELECT a<=>1 FROM t", "SELECT a**1 FROM t", "SELECT a//1 FROM t",
            "SELECT a&1 FROM t", "SELECT a^1 FROM t", "SELECT ~a FROM t", "COMMIT|", "COMMIT||", "COMMIT<", "COMMIT>");
    }

    private static void longest() {
        Probe probe = Probe.withTables();
        probe.shows("SELECT a<=1,a<>1,a>=1 FROM t", "0.0 1 20(0,1) 0.0 1 18(3,4) 0.0 1 22(6,7)");
        probe.shows("SELECT a<-1,a>-1 FROM t", "0.0 1 10(1) 19(0,2) 0.0 1 10(5) 21(4,6)");
        probe.shows("SELECT 12,'a''b' FROM t", "12 'a'b'");
        probe.shows("SELECT 1FROM t", "1");
        probe.shows("SELECT aFROMt", "0.0");
        probe.reads(-6, "SELECT a1 FROM t", "SELECT a_ FROM t", "SELECT ab FROM t", "SELECT a1b FROM t");
        probe.reads(-4, "SELECT a FROM tu", "SELECT a FROM t1", "SELECT a FROM t_u");
        probe.reads(-1, "SELECTA FROM t", "SELECTDISTINCT a FROM t", "SELECT a FROMT t", "COMMITCOMMIT",
            "SELECT 1a FROM t", "SELECT 1_ FROM t", "SELECT 1 2 FROM t", "SELECT 'a' 'b' FROM t",
            "SELECT a <> = 1 FROM t");
        probe.reads(8, "SELECT a FROM t u1", "SELECT NOT(c)AND(c)OR(c)FROM t");
    }

    private static void blanks() {
        Probe.each(10, " COMMIT", "COMMIT ", "      COMMIT      ", "COMMIT;", "COMMIT   ;   ", " COMMIT ; ");
        Probe.each(8, "SELECT(a)FROM t", "SELECT'x'FROM t", "SELECT 1FROM t", "SELECT-a,-1FROM t",
            "SELECT    c   ,   b   FROM   t   ,   u   p   WHERE   p  .  a   =   1   LIMIT   3");
        Probe.each(-1, "COM MIT", "SELECT a FROM t WHERE a < = 1", "SELECT a FROM t WHERE a > = 1",
            "SELECT a FROM t WHERE a < > 1", "SELECT b | | b FROM t", "SELECT 1 2 FROM t");
        for (int b = 0; b <= 32; b++) {
            Probe.each(b == 32 ? 9 : -1, "BEGIN" + (char) b + "SERIALIZABLE", "BEGIN" + (char) b, (char) b + "BEGIN");
        }
        Probe.each(-1, "BEGIN\u00a0SERIALIZABLE", "BEGIN\u007f", "", " ", " ".repeat(2000));
    }

    private static void noTokens() {
        for (int b = 0; b < 256; b++) {
            boolean starts = b >= 'A' && b <= 'Z' || b >= 'a' && b <= 'z' || b >= '0' && b <= '9' || b == ' '
                || SIGNS.indexOf((char) b) >= 0;
            if (!starts) {
                Probe.each(-1, "COMMIT" + (char) b, (char) b + "COMMIT", "SELECT a " + (char) b + " FROM t",
                    "SELECT a FROM t LIMIT 1" + (char) b, "SELECT (a)" + (char) b + "b FROM t");
            }
        }
        Probe.each(-1, "SELECT z FROM zz #", "SELECT _a FROM t", "SELECT a FROM t WHERE ?", "SELECT \"a\" FROM t",
            "SELECT a FROM t -- x", "SELECT a FROM t {", "SELECT `a` FROM t", "SELECT a FROM t\\");
    }

    private static void noWords() {
        String[] words = {"X", "ALL", "ASC", "HAVING", "JOIN", "LIKE", "EXISTS", "CASE", "AVG", "INTEGER", "BOOLEAN",
            "COUNTS", "SELECTS", "NUL", "TRU", "BETWEE", "ABORT", "END", "START", "OFFSET", "UNION", "PRIMARY"};
        for (String word : words) {
            Probe.each(-1, word, "COMMIT " + word, "SELECT a FROM t " + word, "SELECT " + word + " FROM t",
                "SELECT " + word + "(a) FROM t", "CREATE TABLE x (y " + word + ")");
        }
    }

    private static void ends() {
        String[] statements = {"CREATE TABLE x (y INT)", "CREATE INDEX ON t (a)", "DROP TABLE t",
            "INSERT INTO u VALUES (1)", "INSERT INTO u SELECT a FROM u", "UPDATE t SET a = 1", "DELETE FROM t",
            "SELECT a FROM t", "BEGIN", "COMMIT", "ROLLBACK", "SAVEPOINT s", "ROLLBACK TO s", "RELEASE s",
            "LOCK t SHARE", "PREPARE p AS DELETE FROM t", "EXECUTE p", "VACUUM t", "CHECKPOINT"};
        for (int i = 0; i < statements.length; i++) {
            Probe.each(i + 1, statements[i], statements[i] + ";", statements[i] + " ; ");
            Probe.each(-1, statements[i] + ";;", ";" + statements[i], statements[i] + "; COMMIT", statements[i] + ",",
                statements[i] + " " + statements[i], statements[i] + ")", statements[i] + " 1");
        }
        Probe.each(-1, "", ";", " ; ", "PREPARE p AS; DELETE FROM t", "PREPARE p; AS DELETE FROM t");
    }

    private static void options() {
        Probe.each(1, "CREATE TABLE x (y INT)", "CREATE TABLE x (y INT NOT NULL)", "CREATE TABLE x (y INT UNIQUE)",
            "CREATE TABLE x (y INT NOT NULL UNIQUE)");
        Probe.each(-1, "CREATE TABLE x (y INT UNIQUE NOT NULL)", "CREATE TABLE x (y INT NOT NULL NOT NULL)",
            "CREATE TABLE x (y INT UNIQUE UNIQUE)", "CREATE TABLE x (y INT NOT)", "CREATE TABLE x (y INT NULL)");
        Probe.each(2, "CREATE INDEX ON t (a)", "CREATE UNIQUE INDEX ON t (a)");
        Probe.each(-1, "CREATE UNIQUE UNIQUE INDEX ON t (a)", "CREATE UNIQUE TABLE x (y INT)");
        Probe.each(6, "UPDATE t SET a = 1", "UPDATE t SET a = 1 WHERE c");
        Probe.each(7, "DELETE FROM t", "DELETE FROM t WHERE c");
        Probe.each(8, "SELECT a FROM t", "SELECT DISTINCT a FROM t", "SELECT a FROM t p", "SELECT a FROM t WHERE c",
            "SELECT a FROM t GROUP BY a", "SELECT a FROM t ORDER BY 1", "SELECT a FROM t ORDER BY 1 DESC",
            "SELECT a FROM t LIMIT 1", "SELECT a FROM t FOR UPDATE", "SELECT a FROM t FOR SHARE", "SELECT * FROM t",
            "SELECT DISTINCT * FROM t", "SELECT DISTINCT a FROM t p WHERE c GROUP BY p.a ORDER BY 1 DESC LIMIT 1");
        Probe.each(-1, "SELECT DISTINCT DISTINCT a FROM t", "SELECT a FROM t p p", "SELECT a FROM t WHERE c WHERE c",
            "SELECT a FROM t ORDER BY 1 DESC DESC", "SELECT a FROM t LIMIT 1 LIMIT 1",
            "SELECT a FROM t FOR SHARE FOR SHARE", "SELECT a FROM t FOR SHARE UPDATE", "SELECT * * FROM t",
            "SELECT a FROM t LIMIT 1 WHERE c", "SELECT a FROM t FOR SHARE LIMIT 1");
        Probe.each(9, "BEGIN", "BEGIN READ COMMITTED", "BEGIN REPEATABLE READ", "BEGIN SERIALIZABLE");
        Probe.each(-1, "BEGIN READ", "BEGIN REPEATABLE", "BEGIN READ COMMITTED SERIALIZABLE", "BEGIN COMMITTED");
        Probe.each(17, "EXECUTE p", "EXECUTE p (1)");
        Probe.each(-1, "EXECUTE p ()", "EXECUTE p (1) (1)");
    }

    private static void rows() {
        String[] starts = {"CREATE TABLE x (", "INSERT INTO u VALUES ", "INSERT INTO w VALUES (", "UPDATE t SET ",
            "SELECT ", "SELECT t.a FROM ", "SELECT a FROM t GROUP BY ", "SELECT a FROM t ORDER BY ", "EXECUTE p (",
            "SELECT a IN ("};
        String[] ones = {"y INT", "(1)", "1", "a = 1", "a", "t", "a", "1", "1", "1"};
        String[] twos = {"z INT", "(2)", "2", "b = 'x'", "b", "u", "b", "1 DESC", "2", "2"};
        String[] ends = {")", "", ")", "", " FROM t", "", "", "", ")", ") FROM t"};
        // A row is never as long as a table without columns, so that there the error is 1 at any rate.
        int[] kinds = {1, 4, -1, 6, 8, 8, 8, 8, 17, 8};
        for (int i = 0; i < starts.length; i++) {
            Probe.each(kinds[i], starts[i] + ones[i] + ends[i], starts[i] + ones[i] + "," + twos[i] + ends[i]);
            Probe.each(-1, starts[i] + ends[i], starts[i] + ones[i] + "," + ends[i],
                starts[i] + "," + ones[i] + ends[i], starts[i] + ones[i] + ",," + twos[i] + ends[i]);
        }
        Probe.each(4, "INSERT INTO u VALUES (1)" + ",(1)".repeat(199),
            "INSERT INTO t VALUES (1,'x',TRUE),(2,'y',FALSE)");
        Probe.each(17, "EXECUTE p (1" + ",1".repeat(199) + ")");
        Probe.each(8, "SELECT 1 IN (1" + ",1".repeat(49) + ") FROM t");
    }

    private static void preparable() {
        String[] fine = {"INSERT INTO u VALUES (1)", "INSERT INTO u SELECT a FROM u", "UPDATE t SET a = 1",
            "DELETE FROM t", "SELECT a FROM t"};
        for (int i = 0; i < fine.length; i++) {
            Probe probe = Probe.withTables();
            probe.reads(16, "PREPARE p AS " + fine[i]);
            Probe.due("kind of " + fine[i], probe.reader.count(14), i + 4);
        }
        String[] wrongs = {"CREATE TABLE x (y INT)", "CREATE INDEX ON t (a)", "DROP TABLE t", "BEGIN", "COMMIT",
            "ROLLBACK", "SAVEPOINT s", "ROLLBACK TO s", "RELEASE s", "LOCK t SHARE", "PREPARE q AS DELETE FROM t",
            "EXECUTE q", "VACUUM t", "CHECKPOINT", ""};
        for (String wrong : wrongs) {
            Probe.each(-1, "PREPARE p AS " + wrong);
        }
    }

    private static void modes() {
        String[] modes = {"ACCESS SHARE", "ROW SHARE", "ROW EXCLUSIVE", "SHARE UPDATE EXCLUSIVE", "SHARE",
            "SHARE ROW EXCLUSIVE", "EXCLUSIVE", "ACCESS EXCLUSIVE"};
        for (int i = 0; i < modes.length; i++) {
            Probe probe = Probe.withTables();
            probe.reads(15, "LOCK t " + modes[i]);
            Probe.due("mode " + modes[i], probe.reader.count(10), i + 1);
        }
        Probe.each(-1, "LOCK t", "LOCK t ACCESS", "LOCK t ROW", "LOCK t SHARE UPDATE", "LOCK t SHARE ROW",
            "LOCK t UPDATE", "LOCK t UPDATE EXCLUSIVE", "LOCK t SHARE SHARE", "LOCK t SHARE EXCLUSIVE",
            "LOCK t ACCESS ROW EXCLUSIVE", "LOCK t EXCLUSIVE SHARE", "LOCK t ROW SHARE EXCLUSIVE", "LOCK t 1");
    }

    private static void binding() {
        Probe probe = Probe.withTables();
        probe.shows("SELECT c OR c AND c FROM t", "0.2 0.2 0.2 26(1,2) 27(0,3)");
        probe.shows("SELECT c AND c OR c FROM t", "0.2 0.2 26(0,1) 0.2 27(2,3)");
        probe.shows("SELECT c AND NOT c AND c FROM t", "0.2 0.2 25(1) 26(0,2) 0.2 26(3,4)");
        probe.shows("SELECT NOT c OR c FROM t", "0.2 25(0) 0.2 27(1,2)");
        probe.shows("SELECT NOT a = 1 FROM t", "0.0 1 17(0,1) 25(2)");
        probe.shows("SELECT NOT a IS NULL FROM t", "0.0 23(0) 25(1)");
        probe.shows("SELECT b || b = b FROM t", "0.1 0.1 16(0,1) 0.1 17(2,3)");
        probe.shows("SELECT b = b || b FROM t", "0.1 0.1 0.1 16(1,2) 17(0,3)");
        probe.reads(-8, "SELECT b || 1 + 1 FROM t", "SELECT 1 + 1 || b FROM t");
        probe.shows("SELECT NULL || NULL IS NULL FROM t", "NULL NULL 16(0,1) 23(2)");
        probe.shows("SELECT 1 + 2 * 3 FROM t", "1 2 3 13(1,2) 11(0,3)");
        probe.shows("SELECT 1 * 2 - 3 FROM t", "1 2 13(0,1) 3 12(2,3)");
        probe.shows("SELECT 1 - 2 % 3 FROM t", "1 2 3 15(1,2) 12(0,3)");
        probe.shows("SELECT - 1 * 2 FROM t", "1 10(0) 2 13(1,2)");
        probe.shows("SELECT 1 / - 2 / 3 FROM t", "1 2 10(1) 14(0,2) 3 14(3,4)");
        probe.shows("SELECT - 1 + 2 FROM t", "1 10(0) 2 11(1,2)");
    }

    private static void oneComparison() {
        String[] comparisons = {"= 1", "<> 1", "< 1", "<= 1", "> 1", ">= 1", "IS NULL", "IS NOT NULL",
            "BETWEEN 1 AND 2", "NOT BETWEEN 1 AND 2", "IN (1)", "NOT IN (1)"};
        for (String one : comparisons) {
            Probe.each(8, "SELECT a " + one + " FROM t", "SELECT a " + one + " AND a " + one + " FROM t",
                "SELECT (a " + one + ") = c FROM t");
            for (String other : comparisons) {
                Probe.each(-1, "SELECT a " + one + " " + other + " FROM t");
            }
            Probe.each(-1, "SELECT NOT a " + one + " = c FROM t", "SELECT c AND a " + one + " = c FROM t",
                "SELECT c OR NOT a " + one + " = c FROM t");
        }
    }

    private static void sides() {
        Probe.each(8, "SELECT 1 + 1 = 1 * 1 FROM t", "SELECT b || b = b || b FROM t", "SELECT -a < -a FROM t",
            "SELECT a + 1 BETWEEN a - 1 AND -a OR c FROM t", "SELECT a + 1 IN (1, a * 2) FROM t",
            "SELECT a BETWEEN 1 AND 2 AND c FROM t", "SELECT c IN (NOT c, c OR c, a = 1) FROM t");
        Probe.each(-1, "SELECT c = NOT c FROM t", "SELECT c < NOT c FROM t", "SELECT a BETWEEN NOT c AND 2 FROM t",
            "SELECT a BETWEEN 1 AND NOT c FROM t", "SELECT a BETWEEN 1 FROM t", "SELECT a BETWEEN 1 OR 2 FROM t",
            "SELECT a BETWEEN 1 = 1 AND 2 FROM t", "SELECT a BETWEEN 1 AND 2 = 2 FROM t", "SELECT 1 + NOT c FROM t",
            "SELECT -NOT c FROM t", "SELECT b || NOT c FROM t", "SELECT a * NOT c FROM t");
        Probe.withTables().shows("SELECT a BETWEEN 1 AND 2 AND c FROM t",
            "0.0 1 22(0,1) 0.0 2 20(3,4) 26(2,5) 0.2 26(6,7)");
        Probe.withTables().shows("SELECT c = c OR c FROM t", "0.2 0.2 17(0,1) 0.2 27(2,3)");
    }

    private static void fromTheLeft() {
        String[] signs = {"OR", "AND", "||", "+", "-", "*", "/", "%"};
        int[] kinds = {27, 26, 16, 11, 12, 13, 14, 15};
        String[] leaves = {"c", "c", "b", "a", "a", "a", "a", "a"};
        String[] places = {"0.2", "0.2", "0.1", "0.0", "0.0", "0.0", "0.0", "0.0"};
        for (int i = 0; i < signs.length; i++) {
            String between = " " + signs[i] + " ";
            Probe.withTables().shows("SELECT " + leaves[i] + between + leaves[i] + between + leaves[i] + " FROM t",
                places[i] + " " + places[i] + " " + kinds[i] + "(0,1) " + places[i] + " " + kinds[i] + "(2,3)");
        }
    }

    private static void itemsAlone() {
        String[] aggregates = {"COUNT(*)", "COUNT(a)", "SUM(a)", "MIN(a)", "MAX(a)"};
        for (String aggregate : aggregates) {
            Probe.each(8, "SELECT " + aggregate + " FROM t", "SELECT 1, -(" + aggregate + ") FROM t");
            Probe.each(5, "INSERT INTO u SELECT " + aggregate + " FROM t");
            Probe.each(16, "PREPARE p AS SELECT " + aggregate + " FROM t");
            Probe.each(-1, "SELECT a FROM t WHERE " + aggregate + " = 1", "DELETE FROM t WHERE " + aggregate + " = 1",
                "UPDATE t SET a = " + aggregate, "UPDATE t SET a = 1 WHERE " + aggregate + " = 1",
                "INSERT INTO u VALUES (" + aggregate + ")", "EXECUTE p (" + aggregate + ")",
                "SELECT COUNT(*) FROM t GROUP BY " + aggregate, "SELECT 1 FROM t ORDER BY " + aggregate);
        }
    }

    private static String deep(String before, String inside, String behind, int n) {
        return before.repeat(n) + inside + behind.repeat(n);
    }

    /** E in each of its places. */
    private static void everywhere(boolean fine, String e, String truth) {
        Probe.each(fine ? 8 : -1, "SELECT " + e + " FROM t", "SELECT 1, 2, " + e + " FROM t",
            "SELECT a FROM t WHERE " + truth);
        Probe.each(fine ? 6 : -1, "UPDATE t SET a = " + e, "UPDATE t SET a = 1 WHERE " + truth);
        Probe.each(fine ? 7 : -1, "DELETE FROM t WHERE " + truth);
        Probe.each(fine ? 16 : -1, "PREPARE p AS SELECT " + e + " FROM t");
    }

    private static void brackets() {
        everywhere(true, deep("(", "a", ")", 20), deep("(", "c", ")", 20));
        everywhere(false, deep("(", "a", ")", 21), deep("(", "c", ")", 21));
        everywhere(true, deep("(a+", "a", ")", 20), deep("(c OR ", "c", ")", 20));
        everywhere(false, deep("(a+", "a", ")", 21), deep("(c OR ", "c", ")", 21));
        Probe.each(4, "INSERT INTO u VALUES (" + deep("(", "1", ")", 20) + ")");
        Probe.each(-1, "INSERT INTO u VALUES (" + deep("(", "1", ")", 21) + ")");
        Probe.each(17, "EXECUTE p (1," + deep("(", "1", ")", 20) + ")");
        Probe.each(-1, "EXECUTE p (1," + deep("(", "1", ")", 21) + ")");
        Probe.each(-1, "SELECT " + deep("(", "a", ")", 22) + " FROM t", "SELECT " + deep("(", "a", ")", 41) + " FROM t",
            "SELECT " + deep("(", "a", ")", 300) + " FROM t", "SELECT " + "(".repeat(1990));
    }

    private static void otherBrackets() {
        String[] holders = {"COUNT(a)", "SUM(a)", "MIN(a)", "MAX(a)", "a IN (1)", "a NOT IN (1)", "a IN (1, 2)"};
        for (String holder : holders) {
            Probe.each(8, "SELECT " + deep("(", holder, ")", 19) + " FROM t");
            Probe.each(-1, "SELECT " + deep("(", holder, ")", 20) + " FROM t");
        }
        String[] names = {"COUNT(", "SUM(", "MIN(", "MAX("};
        for (String name : names) {
            Probe.each(8, "SELECT " + name + deep("(", "a", ")", 19) + ") FROM t");
            Probe.each(-1, "SELECT " + name + deep("(", "a", ")", 20) + ") FROM t");
        }
        Probe.each(-9, "SELECT " + deep("COUNT(", "a", ")", 20) + " FROM t");
        Probe.each(-1, "SELECT " + deep("COUNT(", "a", ")", 21) + " FROM t");
        Probe.each(8, "SELECT a IN (" + deep("(", "1", ")", 19) + ", " + deep("(", "1", ")", 19) + ") FROM t",
            "SELECT " + deep("c IN (", "c", ")", 20) + " FROM t", "SELECT (" + deep("(", "a", ")",
            19) + ") IN (1) FROM t");
        Probe.each(-1, "SELECT a IN (" + deep("(", "1", ")", 20) + ") FROM t",
            "SELECT a IN (1, " + deep("(", "1", ")", 20) + ") FROM t", "SELECT " + deep("c IN (", "c", ")",
            21) + " FROM t");
    }

    private static void signsBefore() {
        everywhere(true, deep("-", "a", "", 20), deep("NOT ", "c", "", 20));
        everywhere(false, deep("-", "a", "", 21), deep("NOT ", "c", "", 21));
        everywhere(true, deep("-(", "a", ")", 10), deep("NOT (", "c", ")", 10));
        everywhere(false, "-" + deep("-(", "a", ")", 10), "NOT " + deep("NOT (", "c", ")", 10));
        everywhere(false, "(" + deep("-(", "a", ")", 10) + ")", "(" + deep("NOT (", "c", ")", 10) + ")");
        Probe.each(8, "SELECT " + deep("(", "-a", ")", 19) + " FROM t", "SELECT " + deep("(", "NOT c", ")",
            19) + " FROM t",
            "SELECT COUNT(" + deep("-", "a", "", 19) + ") FROM t", "SELECT a IN (" + deep("-", "1", "",
            19) + ") FROM t",
            "SELECT " + deep("NOT ", "-a = 1", "", 19) + " FROM t", "SELECT " + deep("NOT ", "a = 1", "",
            20) + " FROM t");
        Probe.each(-1, "SELECT " + deep("(", "-a", ")", 20) + " FROM t", "SELECT " + deep("(", "NOT c", ")",
            20) + " FROM t",
            "SELECT COUNT(" + deep("-", "a", "", 20) + ") FROM t", "SELECT a IN (" + deep("-", "1", "",
            20) + ") FROM t",
            "SELECT " + deep("NOT ", "-a = 1", "", 20) + " FROM t", "SELECT " + deep("-", "a", "", 900) + " FROM t",
            "SELECT " + deep("NOT ", "a = -1", "", 20) + " FROM t", "SELECT " + deep("NOT ", "c", "", 450) + " FROM t");
    }

    /** What stands beside a place, or works on what is before it, does not hold it. */
    private static void whatDoesNotHold() {
        Probe.each(8, "SELECT " + "(a)+".repeat(30) + "a FROM t", "SELECT " + "-a+".repeat(30) + "a FROM t",
            "SELECT " + "NOT c AND ".repeat(30) + "c FROM t", "SELECT a" + " - -a".repeat(30) + " FROM t",
            "SELECT a" + " - a".repeat(60) + " FROM t", "SELECT " + deep("(", "COUNT(*)", ")", 20) + " FROM t",
            "SELECT " + deep("(", "a IS NOT NULL", ")", 20) + " FROM t",
            "SELECT " + deep("(", "a NOT BETWEEN 1 AND 2", ")", 20) + " FROM t",
            "SELECT " + deep("(", "a BETWEEN 1 AND 2", ")", 20) + " FROM t",
            "SELECT NOT c AND " + deep("(", "c", ")", 20) + " FROM t", "SELECT -a + " + deep("(", "a", ")",
            20) + " FROM t",
            "SELECT " + deep("(", "a", ")", 20) + " IN (1) FROM t", "SELECT COUNT(a) + " + deep("(", "1", ")",
            20) + " FROM t");
        Probe.each(-1, "SELECT " + deep("(", "COUNT(*)", ")", 21) + " FROM t");
    }

    private static void nodeNumbers() {
        Probe probe = Probe.withTables();
        probe.read("SELECT 1" + "+1".repeat(99) + " FROM t");
        Probe.due("no node before the first", probe.reader.node(-1, 0), -1);
        Probe.due("the first", probe.reader.node(0, 0), 1);
        Probe.due("the second", probe.reader.node(1, 0), 1);
        Probe.due("what works on them", probe.reader.node(2, 0), 11);
        Probe.due("on the first", probe.reader.node(2, 1), 0);
        Probe.due("and the second", probe.reader.node(2, 2), 1);
        Probe.due("the last but one", probe.reader.node(197, 0), 1);
        Probe.due("the last", probe.reader.node(198, 0), 11);
        Probe.due("its operands", probe.reader.node(198, 1), 196);
        Probe.due("in their order", probe.reader.node(198, 2), 197);
        Probe.due("none behind it", probe.reader.node(199, 0), -1);
        Probe full = Probe.withTables();
        full.reads(8, "SELECT -(1" + "+1".repeat(99) + ") FROM t");
        Probe.due("node 199 of 200", full.reader.node(199, 0), 10);
        Probe.due("no node 200", full.reader.node(200, 0), -1);
    }

    private static void nodeKinds() {
        String[] items = {"NULL", "1", "'x'", "TRUE", "a", "COUNT(*)", "COUNT(1)", "SUM(1)", "MIN(1)", "MAX(1)", "-1",
            "1 + 1",
            "1 - 1", "1 * 1", "1 / 1", "1 % 1", "'x' || 'x'", "1 = 1", "1 <> 1", "1 < 1", "1 <= 1", "1 > 1", "1 >= 1",
            "1 IS NULL",
            "1 IS NOT NULL", "NOT TRUE", "TRUE AND TRUE", "TRUE OR TRUE", "$1"};
        for (int kind = 0; kind < items.length; kind++) {
            Probe probe = Probe.withTables();
            probe.reads(16, "PREPARE p AS SELECT " + items[kind] + " FROM t");
            Probe.due("kind of " + items[kind], probe.reader.node(probe.reader.list(0, 0), 0), kind);
        }
    }

    private static void between() {
        Probe probe = Probe.withTables();
        probe.shows("SELECT a BETWEEN 1 AND 2 FROM t", "0.0 1 22(0,1) 0.0 2 20(3,4) 26(2,5)");
        probe.shows("SELECT -(a + 3) BETWEEN -1 AND 1 + 2 FROM t", "0.0 3 11(0,1) 10(2) 1 10(4) 22(3,5) "
            + "0.0 3 11(7,8) 10(9) 1 2 11(11,12) 20(10,13) 26(6,14)");
        probe.shows("SELECT 7, a + 3 BETWEEN 1 AND 2 FROM t",
            "7 0.0 3 11(1,2) 1 22(3,4) 0.0 3 11(6,7) 2 20(8,9) 26(5,10)");
        probe.shows("SELECT c AND -a BETWEEN 1 AND 2 FROM t",
            "0.2 0.0 10(1) 1 22(2,3) 0.0 10(5) 2 20(6,7) 26(4,8) 26(0,9)");
        // x of 97 nodes: 97 + 2 + 97 + 2 and AND are 199, and x of one - more is over 200
        String x = "1" + "+1".repeat(48);
        Probe.each(8, "SELECT " + x + " BETWEEN 1 AND 2 FROM t");
        Probe.each(-2, "SELECT -(" + x + ") BETWEEN 1 AND 2 FROM t");
        Probe.each(8, "SELECT " + x + " BETWEEN -1 AND 2 FROM t");
        Probe.each(-2, "SELECT " + x + " BETWEEN -1 AND -2 FROM t", "SELECT " + x + " NOT BETWEEN -1 AND 2 FROM t");
    }

    private static void among() {
        Probe probe = Probe.withTables();
        probe.shows("SELECT a IN (1) FROM t", "0.0 1 17(0,1)");
        probe.shows("SELECT a IN (1, 2) FROM t", "0.0 1 17(0,1) 0.0 2 17(3,4) 27(2,5)");
        probe.shows("SELECT a IN (1, 2, 3) FROM t", "0.0 1 17(0,1) 0.0 2 17(3,4) 27(2,5) 0.0 3 17(7,8) 27(6,9)");
        probe.shows("SELECT 7, -a IN (1, 2) FROM t", "7 0.0 10(1) 1 17(2,3) 0.0 10(5) 2 17(6,7) 27(4,8)");
        probe.shows("SELECT c IN (TRUE, a + 3 IN (1, 2)) FROM t",
            "0.2 TRUE 17(0,1) 0.2 0.0 3 11(4,5) 1 17(6,7) 0.0 3 11(9,10) 2 "
            + "17(11,12) 27(8,13) 17(3,14) 27(2,15)");
        // one value has 3 nodes, each more has 4: 50 values have 199
        Probe.each(8, "SELECT a IN (1" + ",1".repeat(49) + ") FROM t",
            "SELECT a NOT IN (1" + ",1".repeat(49) + ") FROM t");
        Probe.each(-2, "SELECT a IN (1" + ",1".repeat(50) + ") FROM t",
            "SELECT a IN (- -1" + ",1".repeat(49) + ") FROM t",
            "SELECT a NOT IN (-1" + ",1".repeat(49) + ") FROM t");
        Probe.each(-1, "SELECT a IN () FROM t");
    }

    private static void notBehind() {
        Probe probe = Probe.withTables();
        probe.shows("SELECT a NOT BETWEEN 1 AND 2 FROM t", "0.0 1 22(0,1) 0.0 2 20(3,4) 26(2,5) 25(6)");
        probe.shows("SELECT a NOT IN (1) FROM t", "0.0 1 17(0,1) 25(2)");
        probe.shows("SELECT NOT a NOT IN (1, 2) FROM t", "0.0 1 17(0,1) 0.0 2 17(3,4) 27(2,5) 25(6) 25(7)");
        probe.shows("SELECT a IS NOT NULL FROM t", "0.0 24(0)");
    }

    private static void starBehind() {
        Probe probe = Probe.withTables();
        probe.shows("SELECT * FROM t", "0.0 0.1 0.2");
        probe.shows("SELECT * FROM v WHERE d = 7 GROUP BY e, d", "0.0 7 17(0,1) 0.1 0.0 0.0 0.1");
        probe.shows("INSERT INTO u SELECT * FROM u WHERE a = 7", "0.0 7 17(0,1) 0.0");
        probe.shows("SELECT * FROM w WHERE 7 = 8", "7 8 17(0,1)");
        Probe.due("no item", probe.reader.count(1), 0);
        probe.shows("SELECT * FROM w", "");
    }
}
