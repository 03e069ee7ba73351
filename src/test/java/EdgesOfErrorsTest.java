/** The sentences of "Terms" about errors that name a boundary, and the order in which errors are found. */
public final class EdgesOfErrorsTest {
    /** Operands of the types 0 .. 3. */
    private static final String[] OPERANDS = {"NULL", "a", "b", "c"};
    private static final String EIGHT = "a1 b1 c1 d1 e1 f1 g1 h1";

    public static void main(String[] args) {
        Edges edges = new Edges("Edges of the errors");
        sizes(edges);
        names(edges);
        types(edges);
        parameters(edges);
        measures(edges);
        atLast(edges);
        edges.finish();
    }

    private static void sizes(Edges edges) {
        edges.sentence("the first of these that is so: 1 no statement (syntax)", EdgesOfErrorsTest::noStatement);
        edges.sentence("A STATEMENT, with its KIND (one that is cut off is none)", EdgesOfErrorsTest::cutOff);
        edges.sentence("2 more than 200 nodes", EdgesOfErrorsTest::manyNodes);
        edges.sentence("(without those of *)", EdgesOfErrorsTest::manyNodesWithoutStar);
        edges.sentence("3 more than 3 tables of a query", EdgesOfErrorsTest::manyTables);
        edges.sentence("8 items (by E)", EdgesOfErrorsTest::manyItems);
        edges.sentence("4 groups", EdgesOfErrorsTest::manyGroups);
        edges.sentence("4 orders", EdgesOfErrorsTest::manyOrders);
        edges.sentence("or 8 columns in CREATE TABLE", EdgesOfErrorsTest::manyColumns);
        edges.sentence("or SET", EdgesOfErrorsTest::manySettings);
    }

    private static void names(Edges edges) {
        edges.sentence("First the names of tables: 4 there is none", EdgesOfErrorsTest::noTable);
        edges.sentence("(not that of CREATE TABLE)", EdgesOfErrorsTest::newTable);
        edges.sentence("from the left", EdgesOfErrorsTest::tablesFromTheLeft);
        edges.sentence("5 two tables of a query have one name", EdgesOfErrorsTest::tableTwice);
        edges.sentence("(the second name counts, if there is one)", EdgesOfErrorsTest::secondNames);
        edges.sentence("Secondly, from the left, what works on operands behind them",
            EdgesOfErrorsTest::placesFromTheLeft);
        edges.sentence("6 a place (or a name in SET, or in CREATE INDEX) is no column of the tables",
            EdgesOfErrorsTest::noColumn);
        edges.sentence("(4, if a name stands before it that is none of the query's tables)",
            EdgesOfErrorsTest::noQualifier);
        edges.sentence("7 it is one of several of them", EdgesOfErrorsTest::severalColumns);
        edges.sentence("* stands for all columns, table by table", EdgesOfErrorsTest::star);
        edges.sentence("in SET and rows of INSERT places have no table", EdgesOfErrorsTest::noTables);
        edges.sentence("but in UPDATE's and DELETE's E and WHERE that one", EdgesOfErrorsTest::ownTable);
        edges.sentence("a column of CREATE INDEX is that of its table", EdgesOfErrorsTest::indexColumn);
    }

    private static void types(Edges edges) {
        edges.sentence("8 a type does not fit: 10 to 15 and 7 need INT", EdgesOfErrorsTest::needInt);
        edges.sentence("16 TEXT", EdgesOfErrorsTest::needText);
        edges.sentence("25 to 27 and WHERE BOOL", EdgesOfErrorsTest::needBool);
        edges.sentence("8 and 9 INT or TEXT", EdgesOfErrorsTest::needIntOrText);
        edges.sentence("17 to 22 two of one type", EdgesOfErrorsTest::needOneType);
        edges.sentence("a value in INSERT (of a row)", EdgesOfErrorsTest::rowTypes);
        edges.sentence("or an item", EdgesOfErrorsTest::itemTypes);
        edges.sentence("also one that * stands for, where * stands", EdgesOfErrorsTest::starTypes);
        edges.sentence("and SET that of the column", EdgesOfErrorsTest::setTypes);
        edges.sentence("The types: 1, 5 .. 7, 10 .. 15 INT, 2, 16 TEXT, 3, 17 .. 27 BOOL",
            EdgesOfErrorsTest::typesOfKinds);
        edges.sentence("4 that of the column, 8 and 9 that of the operand", EdgesOfErrorsTest::typesOfOperands);
        edges.sentence("NULL fits all, its type is 0", EdgesOfErrorsTest::nullFits);
    }

    private static void parameters(Edges edges) {
        edges.sentence("A PARAMETER has the type that is needed where it comes first", EdgesOfErrorsTest::firstNeed);
        edges.sentence("an operand of 6, 8, 9, 23, 24", EdgesOfErrorsTest::anyOperand);
        edges.sentence("17 to 22 with NULL or a parameter without a type on the other side",
            EdgesOfErrorsTest::anyOtherSide);
        edges.sentence("an item alone", EdgesOfErrorsTest::itemAlone);
        edges.sentence("a value or item of INSERT behind all columns of its table",
            EdgesOfErrorsTest::behindAllColumns);
    }

    private static void measures(Edges edges) {
        edges.sentence("Thirdly 3 if * stands for more than 8 columns", EdgesOfErrorsTest::wideStar);
        edges.sentence("2 if with its nodes there are more than 200", EdgesOfErrorsTest::manyNodesWithStar);
        edges.sentence("1 if a row has not as many values as the table has columns", EdgesOfErrorsTest::rowSize);
        edges.sentence("(or the items of a query in INSERT)", EdgesOfErrorsTest::itemsSize);
        edges.sentence("a column is set twice", EdgesOfErrorsTest::setTwice);
        edges.sentence("a number of ORDER BY is no item (1 is the first)", EdgesOfErrorsTest::orders);
        edges.sentence("a parameter is not in PREPARE", EdgesOfErrorsTest::unprepared);
        edges.sentence("or two columns of CREATE TABLE have one name", EdgesOfErrorsTest::columnsTwice);
    }

    private static void atLast(Edges edges) {
        edges.sentence("At last: 9 an aggregate stands in one", EdgesOfErrorsTest::aggregateInOne);
        edges.sentence("or there is one, and an item has a place, outside of aggregates",
            EdgesOfErrorsTest::aggregateBeside);
        edges.sentence("or GROUP BY, and an item has a place that is not grouped by", EdgesOfErrorsTest::notGrouped);
        edges.sentence("(the same column of the same table)", EdgesOfErrorsTest::sameColumn);
        edges.sentence("10 FOR with several tables", EdgesOfErrorsTest::forTables);
        edges.sentence("10 FOR with DISTINCT", EdgesOfErrorsTest::forDistinct);
        edges.sentence("10 FOR with GROUP BY", EdgesOfErrorsTest::forGroups);
        edges.sentence("10 FOR with an aggregate", EdgesOfErrorsTest::forAggregates);
        edges.sentence("10 FOR in INSERT", EdgesOfErrorsTest::forInsert);
        edges.sentence("gone over four times", EdgesOfErrorsTest::fourTimes);
    }

    /** A sum of so many nodes, which must be odd. */
    private static String sum(int nodes) {
        return "1" + "+1".repeat(nodes / 2);
    }

    /** A truth of so many nodes. */
    private static String truth(int nodes) {
        return nodes % 2 == 0 ? sum(nodes - 1) + " IS NULL" : "NOT " + sum(nodes - 2) + " IS NULL";
    }

    private static void noStatement() {
        Probe.each(-1, "", "SELECT", "SELECT a FROM t x y", "SELECT " + sum(201) + " FROM", "SELECT z FROM zz,",
            "SELECT " + sum(301) + " FROM t WHERE", "SELECT a,a,a,a,a,a,a,a,a FROM t WHERE",
            "SELECT a FROM t, t, t, t LIMIT",
            "SELECT 1 FROM t ORDER BY 1,1,1,1,1,", "SELECT 1 FROM t GROUP BY a,a,a,a,a,", "UPDATE zz SET a = 1,",
            "CREATE TABLE x (a INT,b INT,c INT,d INT,e INT,f INT,g INT,h INT,i INT", "SELECT a + b FROM t, u, t FOR",
            "INSERT INTO u VALUES (1)" + ",(1)".repeat(201) + ",", "EXECUTE p (1" + ",1".repeat(201));
    }

    /** A ~ stands where a statement may end, or go on; cut off elsewhere it is none. */
    private static void cutOff() {
        String[] texts = {"CREATE TABLE x ( y INT NOT NULL UNIQUE , z BOOL )", "CREATE UNIQUE INDEX ON t ( a )",
            "DROP TABLE t", "INSERT INTO u VALUES ( 1 )~ , ( 2 , 3 )", "INSERT INTO u SELECT a FROM t~ WHERE t~ . c",
            "UPDATE t SET a = - 1~ , b = 'x'~ WHERE c", "DELETE FROM t~ WHERE a~ = 1", "SAVEPOINT s", "ROLLBACK~ TO s",
            "SELECT DISTINCT a , b FROM t~ p~ , u~ WHERE c~ AND a~ IN ( 1 )",
            "SELECT p . a , 2 FROM t~ p~ GROUP BY p~ . a~ , b~ ORDER BY 1~ DESC~ , 2~ LIMIT 3~ FOR SHARE",
            "BEGIN~ READ COMMITTED", "BEGIN~ REPEATABLE READ", "LOCK t SHARE~ ROW EXCLUSIVE", "LOCK t ACCESS SHARE",
            "LOCK t SHARE~ UPDATE EXCLUSIVE", "PREPARE p AS SELECT $1 FROM t", "EXECUTE p~ ( 1 , 2 )", "VACUUM t",
            "RELEASE s",
            "PREPARE p AS INSERT INTO u VALUES ( - 1 )", "SELECT COUNT ( * ) , MIN ( a ) FROM t",
            "SELECT NOT a NOT BETWEEN 1 AND 2 OR b IS NOT NULL FROM t"};
        for (String text : texts) {
            for (int end = text.indexOf(' '); end >= 0; end = text.indexOf(' ', end + 1)) {
                if (text.charAt(end - 1) != '~') {
                    Probe.each(-1, text.substring(0, end).replace("~", ""));
                }
            }
        }
        Probe.each(-1, "CREATE TABLE x (INT)", "CREATE TABLE x (y)", "CREATE TABLE (y INT)", "CREATE TABLE x (y INT,)",
            "INSERT u VALUES (1)", "CREATE INDEX ON (a)", "UPDATE SET a = 1", "SELECT FROM t", "SELECT a t");
    }

    private static void manyNodes() {
        Probe.each(8, "SELECT -(" + sum(199) + ") FROM t", "SELECT a FROM t WHERE " + truth(199),
            "SELECT a, " + sum(197) + " FROM t WHERE TRUE GROUP BY a");
        Probe.each(-2, "SELECT " + sum(201) + " FROM t", "SELECT a FROM t WHERE " + truth(200),
            "SELECT a, " + sum(197) + " FROM t WHERE TRUE GROUP BY a, b");
        Probe.each(6, "UPDATE t SET a = " + sum(199), "UPDATE t SET a = 1 WHERE " + truth(199));
        Probe.each(-2, "UPDATE t SET a = " + sum(201), "UPDATE t SET a = 1 WHERE " + truth(200));
        Probe.each(7, "DELETE FROM t WHERE " + truth(200));
        Probe.each(-2, "DELETE FROM t WHERE " + truth(201));
        Probe.each(4, "INSERT INTO u VALUES (1)" + ",(1)".repeat(199), "INSERT INTO u VALUES (" + sum(199) + "),(1)");
        Probe.each(-2, "INSERT INTO u VALUES (1)" + ",(1)".repeat(200),
            "INSERT INTO u VALUES (" + sum(199) + "),(1),(1)");
        Probe.each(5, "INSERT INTO u SELECT " + sum(199) + " FROM t WHERE c");
        Probe.each(-2, "INSERT INTO u SELECT " + sum(199) + " FROM t WHERE NOT c");
        Probe.each(17, "EXECUTE p (1" + ",1".repeat(199) + ")");
        Probe.each(-2, "EXECUTE p (1" + ",1".repeat(200) + ")", "EXECUTE p (1" + ",1".repeat(900) + ")");
        Probe.each(16, "PREPARE p AS DELETE FROM t WHERE " + truth(200));
        Probe.each(-2, "PREPARE p AS DELETE FROM t WHERE " + truth(201));
        Probe.each(-2, "SELECT a,a,a,a,a,a,a,a," + sum(199) + " FROM t", "SELECT " + sum(201) + " FROM zz",
            "SELECT " + sum(201) + " + b FROM t", "DELETE FROM zz WHERE " + truth(201),
            "SELECT " + sum(901) + " FROM t");
    }

    private static void manyNodesWithoutStar() {
        Probe.each(8, "SELECT * FROM w WHERE " + truth(200));
        Probe.each(-2, "SELECT * FROM w WHERE " + truth(201), "SELECT * FROM zz WHERE " + truth(201),
            "SELECT * FROM t WHERE " + truth(201));
        // 200 nodes are not too many as long as those of * are not counted, so that these errors come first.
        Probe.each(-4, "SELECT * FROM t, zz WHERE " + truth(200));
        Probe.each(-6, "SELECT * FROM t WHERE z + " + truth(198));
        Probe.each(-8, "SELECT * FROM t WHERE b + " + truth(198), "SELECT * FROM t WHERE -(" + sum(199) + ")");
    }

    private static void manyTables() {
        Probe.each(8, "SELECT 1 FROM t", "SELECT 1 FROM t, u", "SELECT 1 FROM t, u, v", "SELECT 1 FROM t p, t q, t r");
        Probe.each(5, "INSERT INTO u SELECT 1 FROM t, u, v");
        Probe.each(-3, "SELECT 1 FROM t, u, v, w", "SELECT 1 FROM t p, t q, t r, t s", "SELECT 1 FROM t, u, v, t",
            "INSERT INTO u SELECT 1 FROM t, u, v, w", "PREPARE p AS SELECT 1 FROM t, u, v, w",
            "SELECT 1 FROM zz, u, v, w",
            "SELECT * FROM t, u, v, w", "SELECT 1 FROM t" + ",t".repeat(300));
    }

    private static void manyItems() {
        Probe.each(8, "SELECT 1 FROM t", "SELECT 1,1,1,1,1,1,1,1 FROM t");
        Probe.each(-3, "SELECT 1,1,1,1,1,1,1,1,1 FROM t", "SELECT 1,1,1,1,1,1,1,1,1 FROM zz",
            "SELECT z,1,1,1,1,1,1,1,1 FROM t",
            "INSERT INTO t SELECT 1,1,1,1,1,1,1,1,1 FROM t", "SELECT DISTINCT 1,1,1,1,1,1,1,1,1 FROM t",
            "SELECT 1" + ",1".repeat(199) + " FROM t");
        Probe wide = new Probe();
        wide.make("x", EIGHT);
        wide.make("y", "i1");
        wide.reads(8, "SELECT * FROM x");
        // The items of * are counted later.
        wide.reads(-6, "SELECT * FROM x, y WHERE z");
    }

    private static void manyGroups() {
        Probe.each(8, "SELECT 1 FROM t GROUP BY a", "SELECT 1 FROM t GROUP BY a,b,c,a",
            "SELECT a FROM t GROUP BY a,a,a,a");
        Probe.each(-3, "SELECT 1 FROM t GROUP BY a,b,c,a,b", "SELECT 1 FROM t GROUP BY z,z,z,z,z",
            "SELECT 1 FROM zz GROUP BY a,a,a,a,a", "INSERT INTO u SELECT 1 FROM t GROUP BY a,b,c,a,b",
            "SELECT 1 FROM t GROUP BY a" + ",a".repeat(198));
    }

    private static void manyOrders() {
        Probe.each(8, "SELECT 1 FROM t ORDER BY 1", "SELECT 1 FROM t ORDER BY 1,1,1,1",
            "SELECT 1,2 FROM t ORDER BY 1,2 DESC,1,2");
        Probe.each(-3, "SELECT 1 FROM t ORDER BY 1,1,1,1,1", "SELECT 1 FROM t ORDER BY 9,9,9,9,9",
            "SELECT 1 FROM zz ORDER BY 1,1,1,1 DESC,1", "INSERT INTO u SELECT 1 FROM t ORDER BY 1,1,1,1,1",
            "SELECT 1 FROM t ORDER BY 1" + ",1".repeat(900));
    }

    private static void manyColumns() {
        String eight = "a INT,b INT,c INT,d INT,e INT,f INT,g INT,h INT";
        Probe.each(1, "CREATE TABLE x (a INT)", "CREATE TABLE x (" + eight + ")");
        Probe.each(-3, "CREATE TABLE x (" + eight + ",i INT)", "CREATE TABLE x (" + eight + ",a INT)",
            "CREATE TABLE x (a INT" + ",a INT".repeat(200) + ")");
        Probe.each(-1, "CREATE TABLE x (a INT" + ",a INT".repeat(7) + ")");
    }

    private static void manySettings() {
        Probe probe = new Probe();
        probe.make("x", EIGHT);
        String eight = "a=1,b=1,c=1,d=1,e=1,f=1,g=1,h=1";
        probe.reads(6, "UPDATE x SET a=1", "UPDATE x SET " + eight, "UPDATE x SET " + eight + " WHERE TRUE");
        probe.reads(-3, "UPDATE x SET " + eight + ",a=1", "UPDATE x SET " + eight + ",z=1",
            "UPDATE zz SET " + eight + ",a=1");
        probe.reads(-1, "UPDATE x SET a=1" + ",a=1".repeat(7));
        Probe.each(-3, "UPDATE t SET a=1" + ",a=1".repeat(8), "PREPARE p AS UPDATE t SET a=1" + ",a=1".repeat(8));
    }

    private static void noTable() {
        String[] before = {"CREATE INDEX ON ", "DROP TABLE ", "INSERT INTO ", "INSERT INTO ", "UPDATE ", "DELETE FROM ",
            "SELECT 1 FROM ", "LOCK ", "VACUUM ", "PREPARE p AS DELETE FROM "};
        String[] behind = {" (a)", "", " VALUES (1)", " SELECT 1 FROM t", " SET a = 1", "", "", " SHARE", "", ""};
        int[] kinds = {2, 3, 4, 5, 6, 7, 8, 15, 18, 16};
        for (int i = 0; i < before.length; i++) {
            Probe.each(kinds[i], before[i] + "u" + behind[i]);
            Probe.each(-4, before[i] + "x" + behind[i], before[i] + "uu" + behind[i], before[i] + "a" + behind[i]);
            new Probe().reads(-4, before[i] + "u" + behind[i]);
        }
        Probe.each(-4, "SELECT 1 FROM t, x", "SELECT 1 FROM t, u, x", "INSERT INTO u SELECT 1 FROM x",
            "SELECT 1 FROM x t");
    }

    private static void newTable() {
        Probe.each(1, "CREATE TABLE zz (a INT)", "CREATE TABLE t (a INT)");
        new Probe().reads(1, "CREATE TABLE t (t INT)");
    }

    private static void tablesFromTheLeft() {
        Probe.each(-4, "INSERT INTO x SELECT 1 FROM t, t", "SELECT 1 FROM x, t, t", "SELECT 1 FROM t, x, t",
            "SELECT 1 FROM x, x");
        Probe.each(-5, "SELECT 1 FROM t, t, x", "INSERT INTO u SELECT 1 FROM t, t, x");
    }

    private static void tableTwice() {
        Probe.each(-5, "SELECT 1 FROM t, t", "SELECT 1 FROM t, u, t", "SELECT 1 FROM u, t, t", "SELECT 1 FROM w, w",
            "INSERT INTO u SELECT 1 FROM t, t", "PREPARE p AS SELECT 1 FROM t, t", "SELECT zz FROM t, t");
        Probe.each(8, "SELECT 1 FROM t, u, v");
        Probe.each(5, "INSERT INTO u SELECT 1 FROM u");
    }

    private static void secondNames() {
        Probe.each(-5, "SELECT 1 FROM t p, u p", "SELECT 1 FROM t, u t", "SELECT 1 FROM t u, u",
            "SELECT 1 FROM t p, u, v p",
            "SELECT 1 FROM t t, t");
        Probe.each(8, "SELECT 1 FROM t, t p", "SELECT 1 FROM t p, t", "SELECT 1 FROM t u, u t",
            "SELECT 1 FROM t p, t q, t r",
            "SELECT 1 FROM t t", "SELECT p.a, t.a FROM t p, u t");
        Probe.each(-4, "SELECT t.a FROM t p", "SELECT 1 FROM p t");
    }

    private static void placesFromTheLeft() {
        Probe.each(-6, "SELECT z + b FROM t", "SELECT b + z FROM t", "SELECT z, x.a FROM t",
            "SELECT a, z FROM t WHERE b",
            "UPDATE t SET z = b + 1", "UPDATE t SET a = z, b = 1",
            "UPDATE t SET a = 1, z = x.y", "UPDATE t SET a = 1, z = -'x'", "SELECT 'x' || 1 + z FROM t",
            "SELECT z FROM t WHERE x.a");
        Probe.each(-4, "SELECT x.a, z FROM t", "SELECT b + x.a FROM t");
        Probe.each(-7, "SELECT a + z FROM t, u", "SELECT b + a FROM t, u", "SELECT a, z FROM t, u WHERE 1");
        Probe.each(-8, "SELECT -b, z FROM t", "SELECT a + b, x.a FROM t", "SELECT b || 1, a FROM t, u",
            "SELECT -b FROM t WHERE z", "SELECT a FROM t WHERE b GROUP BY z", "UPDATE t SET a = 'x', z = 1",
            "UPDATE t SET a = b WHERE z", "INSERT INTO v VALUES ('x', z)", "INSERT INTO u SELECT b FROM t WHERE z");
    }

    private static void noColumn() {
        Probe.each(-6, "SELECT z FROM t", "SELECT aa FROM t", "SELECT t FROM t", "SELECT t.z FROM t", "SELECT a FROM w",
            "SELECT u.b FROM t, u", "SELECT d FROM t, u", "SELECT a FROM t WHERE z", "SELECT a FROM t GROUP BY z",
            "SELECT a FROM t GROUP BY t.d", "SELECT COUNT(z) FROM t", "UPDATE t SET z = 1", "UPDATE t SET d = 1",
            "UPDATE w SET a = 1", "UPDATE t SET a = 1, z = 2", "CREATE INDEX ON t (z)", "CREATE INDEX ON u (b)",
            "CREATE INDEX ON w (a)", "DELETE FROM t WHERE z", "INSERT INTO u SELECT z FROM t",
            "PREPARE p AS SELECT z FROM t");
        Probe.each(8, "SELECT a, b, c FROM t", "SELECT d FROM t, v",
            "SELECT t.a FROM t, u, v WHERE e = b GROUP BY t.a");
        Probe.each(6, "UPDATE t SET a = 1", "UPDATE t SET c = TRUE");
        Probe.each(2, "CREATE INDEX ON t (a)", "CREATE INDEX ON t (c)");
    }

    private static void noQualifier() {
        Probe.each(-4, "SELECT u.a FROM t", "SELECT x.a FROM t", "SELECT x.z FROM t", "SELECT a.a FROM t",
            "SELECT t.a FROM t p",
            "SELECT a FROM t WHERE u.a = 1", "SELECT a FROM t GROUP BY u.a", "INSERT INTO u SELECT u.a FROM t",
            "UPDATE t SET a = u.a", "DELETE FROM t WHERE u.a = 1", "INSERT INTO u VALUES (u.a)", "EXECUTE p (t.a)");
        Probe.each(-6, "SELECT t.z FROM t", "SELECT p.z FROM t p", "UPDATE t SET a = t.z");
        Probe.each(8, "SELECT t.a FROM t", "SELECT p.a FROM t p", "SELECT t.a, u.a FROM t, u");
    }

    private static void severalColumns() {
        Probe.each(8, "SELECT a FROM t", "SELECT b FROM t, u", "SELECT t.a FROM t, u", "SELECT a FROM w, t, v");
        Probe.each(-7, "SELECT a FROM t, u", "SELECT a FROM u, t", "SELECT a FROM t, v, u",
            "SELECT a FROM t p, t q, t r",
            "SELECT b FROM t p, u, t q", "SELECT t.a FROM t, u WHERE a = 1", "SELECT t.a FROM t, u GROUP BY a",
            "INSERT INTO u SELECT a FROM t, u", "SELECT e FROM v, v w");
    }

    private static void star() {
        Probe probe = Probe.withTables();
        probe.shows("SELECT * FROM v", "0.0 0.1");
        probe.shows("SELECT * FROM t, u, v", "0.0 0.1 0.2 1.0 2.0 2.1");
        probe.shows("SELECT * FROM w, u, v p", "1.0 2.0 2.1");
        probe.shows("SELECT * FROM v p, v q", "0.0 0.1 1.0 1.1");
        probe.shows("SELECT * FROM w", "");
        probe.shows("SELECT * FROM w p, w q", "");
        Probe.due("none", probe.reader.count(1), 0);
    }

    private static void noTables() {
        Probe.each(-6, "INSERT INTO u VALUES (a)", "INSERT INTO t VALUES (1, b, c)", "INSERT INTO u VALUES (1), (a)",
            "EXECUTE p (a)", "INSERT INTO u VALUES (u)");
        Probe.each(-4, "INSERT INTO u VALUES (u.a)", "INSERT INTO u VALUES (t.a)");
        Probe.each(-1, "UPDATE t SET t.a = 1");
    }

    private static void ownTable() {
        Probe probe = Probe.withTables();
        probe.shows("UPDATE t SET a = a + t.a, c = NOT c WHERE t.b = b", "0.0 0.0 11(0,1) 0.2 25(3) 0.1 0.1 17(5,6)");
        probe.shows("DELETE FROM v WHERE v.d = d AND e = 'x'", "0.0 0.0 17(0,1) 0.1 'x' 17(3,4) 26(2,5)");
        probe.reads(-6, "UPDATE t SET a = d", "UPDATE t SET a = 1 WHERE d = 1", "DELETE FROM t WHERE d = 1",
            "UPDATE w SET a = a", "DELETE FROM w WHERE a");
        probe.reads(-4, "UPDATE t SET a = v.d", "DELETE FROM t WHERE v.d = 1");
    }

    private static void indexColumn() {
        Probe probe = Probe.withTables();
        String[] columns = {"a", "b", "c"};
        for (int i = 0; i < columns.length; i++) {
            probe.reads(2, "CREATE INDEX ON t (" + columns[i] + ")");
            Probe.due("column " + i, probe.reader.count(16), i);
        }
        probe.reads(-6, "CREATE INDEX ON t (d)", "CREATE INDEX ON u (b)", "CREATE INDEX ON w (a)");
    }

    private static boolean fits(int type, int need) {
        return type == 0 || type == need;
    }

    /** What works on two operands of every type: fine where both are of one type, or NULL. */
    private static void works(String sign, int need) {
        for (int i = 0; i < 4; i++) {
            for (int j = 0; j < 4; j++) {
                boolean fine = fits(i, need) && fits(j, need);
                Probe.each(fine ? 8 : -8, "SELECT " + OPERANDS[i] + " " + sign + " " + OPERANDS[j] + " FROM t");
            }
        }
    }

    /** What works on one operand of every type. */
    private static void worksOnOne(String before, String behind, boolean... fine) {
        for (int i = 0; i < 4; i++) {
            Probe.each(fine[i] ? 8 : -8, "SELECT " + before + OPERANDS[i] + behind);
        }
    }

    private static void needInt() {
        for (String sign : new String[] {"+", "-", "*", "/", "%"}) {
            works(sign, 1);
        }
        worksOnOne("-", " FROM t", true, true, false, false);
        worksOnOne("SUM(", ") FROM t", true, true, false, false);
        Probe.each(-8, "SELECT 1 + 'x' FROM t", "SELECT -(1 = 1) FROM t", "SELECT SUM(1 IS NULL) FROM t",
            "EXECUTE p (-'x')");
    }

    private static void needText() {
        works("||", 2);
        Probe.each(-8, "SELECT 1 || 'x' FROM t", "SELECT 'x' || TRUE FROM t", "SELECT 'x' || COUNT(*) FROM t");
    }

    private static void needBool() {
        works("AND", 3);
        works("OR", 3);
        worksOnOne("NOT ", " FROM t", true, false, false, true);
        worksOnOne("1 FROM t WHERE ", "", true, false, false, true);
        Probe.each(-8, "DELETE FROM t WHERE a", "DELETE FROM t WHERE b", "UPDATE t SET a = 1 WHERE a + 1",
            "INSERT INTO u SELECT 1 FROM t WHERE 'x'", "PREPARE p AS DELETE FROM t WHERE 1");
        Probe.each(7, "DELETE FROM t WHERE c", "DELETE FROM t WHERE NULL", "DELETE FROM t WHERE TRUE");
    }

    private static void needIntOrText() {
        worksOnOne("MIN(", ") FROM t", true, true, true, false);
        worksOnOne("MAX(", ") FROM t", true, true, true, false);
        worksOnOne("COUNT(", ") FROM t", true, true, true, true);
        worksOnOne("", " IS NULL FROM t", true, true, true, true);
        worksOnOne("", " IS NOT NULL FROM t", true, true, true, true);
    }

    private static void needOneType() {
        for (String sign : new String[] {"=", "<>", "<", "<=", ">", ">="}) {
            for (int i = 0; i < 4; i++) {
                for (int j = 0; j < 4; j++) {
                    boolean fine = i == j || i == 0 || j == 0;
                    Probe.each(fine ? 8 : -8, "SELECT " + OPERANDS[i] + " " + sign + " " + OPERANDS[j] + " FROM t");
                }
            }
        }
        Probe.each(-8, "SELECT a BETWEEN 'x' AND 1 FROM t", "SELECT a BETWEEN 1 AND 'x' FROM t",
            "SELECT a IN ('x') FROM t",
            "SELECT a IN (1, 2, 'x') FROM t", "SELECT NULL IN (1, 'x', a = b) FROM t");
        Probe.each(8, "SELECT NULL BETWEEN 1 AND 'x' FROM t", "SELECT NULL IN (1, 'x', TRUE) FROM t");
    }

    private static void rowTypes() {
        String[] values = {"NULL", "1", "'x'", "TRUE"};
        for (int i = 0; i < 4; i++) {
            Probe.each(fits(i, 1) ? 4 : -8, "INSERT INTO t VALUES (" + values[i] + ",'x',TRUE)");
            Probe.each(fits(i, 2) ? 4 : -8, "INSERT INTO t VALUES (1," + values[i] + ",TRUE)");
            Probe.each(fits(i, 3) ? 4 : -8, "INSERT INTO t VALUES (1,'x'," + values[i] + ")",
                "INSERT INTO t VALUES (1,'x',TRUE),(1,'x'," + values[i] + ")");
            // Behind the last column nothing is needed; that there are too many is seen later.
            Probe.each(-1, "INSERT INTO t VALUES (1,'x',TRUE," + values[i] + ")",
                "INSERT INTO w VALUES (" + values[i] + ")");
        }
        Probe.each(-8, "INSERT INTO t VALUES ('x')", "INSERT INTO u VALUES (1, 2), ('x')",
            "INSERT INTO t VALUES (1, 'x', TRUE, -'x')");
    }

    private static void itemTypes() {
        String[] values = {"NULL", "a", "b", "c"};
        for (int i = 0; i < 4; i++) {
            Probe.each(fits(i, 1) ? 5 : -8, "INSERT INTO t SELECT " + values[i] + ",b,c FROM t");
            Probe.each(fits(i, 2) ? 5 : -8, "INSERT INTO t SELECT a," + values[i] + ",c FROM t");
            Probe.each(fits(i, 3) ? 5 : -8, "INSERT INTO t SELECT a,b," + values[i] + " FROM t");
            Probe.each(-1, "INSERT INTO t SELECT a,b,c," + values[i] + " FROM t",
                "INSERT INTO w SELECT " + values[i] + " FROM t");
            Probe.each(8, "SELECT " + values[i] + " FROM t");
        }
        // Not the columns of FROM are meant, but the items.
        Probe.each(5, "INSERT INTO v SELECT 1, 'x' FROM u, t", "INSERT INTO t SELECT 1, 'x', TRUE FROM u, v");
    }

    private static void starTypes() {
        Probe.each(5, "INSERT INTO t SELECT * FROM t", "INSERT INTO v SELECT * FROM v",
            "INSERT INTO u SELECT * FROM u, w",
            "INSERT INTO w SELECT * FROM w");
        Probe.each(-8, "INSERT INTO t SELECT * FROM v, u", "INSERT INTO v SELECT * FROM u, w, u p",
            "INSERT INTO t SELECT * FROM v, v p",
            "INSERT INTO v SELECT * FROM u, t", "INSERT INTO t SELECT * FROM u, v, w");
        // * stands before WHERE and GROUP BY, and behind the last column nothing is needed.
        Probe.each(-8, "INSERT INTO v SELECT * FROM u, t WHERE z", "INSERT INTO v SELECT * FROM u, t GROUP BY z");
        Probe.each(-6, "INSERT INTO v SELECT * FROM v WHERE z", "INSERT INTO u SELECT * FROM t WHERE z");
        Probe.each(-1, "INSERT INTO u SELECT * FROM t", "INSERT INTO w SELECT * FROM t",
            "INSERT INTO t SELECT * FROM v");
    }

    private static void setTypes() {
        String[] values = {"NULL", "1", "'x'", "TRUE"};
        for (int i = 0; i < 4; i++) {
            Probe.each(fits(i, 1) ? 6 : -8, "UPDATE t SET a = " + values[i]);
            Probe.each(fits(i, 2) ? 6 : -8, "UPDATE t SET b = " + values[i]);
            Probe.each(fits(i, 3) ? 6 : -8, "UPDATE t SET c = " + values[i],
                "UPDATE t SET a = 1, b = 'x', c = " + values[i]);
        }
        Probe.each(-8, "UPDATE t SET a = b", "UPDATE t SET b = a", "UPDATE t SET c = a + 1", "UPDATE t SET a = a = 1");
    }

    private static void typesOfKinds() {
        Probe probe = Probe.withTables();
        probe.reads(8, "SELECT 1, 'x', TRUE, COUNT(*), COUNT('x'), SUM(1), -1 FROM t");
        Probe.due("1, 2, 3, 5, 6, 7, 10", probe.types(), "1" + "2" + "3" + "1" + "21" + "11" + "11");
        probe.reads(8, "SELECT 1+1, 1-1, 1*1, 1/1, 1%1, 'x'||'x' FROM t");
        Probe.due("11 .. 16", probe.types(), "111".repeat(5) + "222");
        probe.reads(8, "SELECT 1=1, 1<>1, 1<1, 1<=1, 1>1, 1>=1 FROM t");
        Probe.due("17 .. 22", probe.types(), "113".repeat(6));
        probe.reads(8, "SELECT 1 IS NULL, 1 IS NOT NULL, NOT TRUE, TRUE AND TRUE, TRUE OR TRUE FROM t");
        Probe.due("23 .. 27", probe.types(), "13" + "13" + "33" + "333" + "333");
    }

    private static void typesOfOperands() {
        Probe probe = Probe.withTables();
        probe.reads(8, "SELECT a, b, c FROM t");
        Probe.due("4", probe.types(), "123");
        probe.reads(8, "SELECT MIN(a), MIN(b), MAX(a), MAX(b), MIN(1), MAX('x'), MIN(NULL) FROM t");
        Probe.due("8 and 9", probe.types(), "11" + "22" + "11" + "22" + "11" + "22" + "00");
        probe.reads(8, "SELECT * FROM v, t");
        Probe.due("those of *", probe.types(), "12123");
    }

    private static void nullFits() {
        Probe probe = Probe.withTables();
        probe.reads(8, "SELECT NULL, MAX(NULL) FROM t WHERE NULL");
        Probe.due("types", probe.types(), "0000");
        probe.reads(8, "SELECT -NULL, NULL+NULL, NULL||NULL, NOT NULL, NULL OR NULL, NULL=NULL, SUM(NULL) FROM t",
            "SELECT 1=NULL, NULL='x', TRUE<>NULL, MIN(NULL), COUNT(NULL), NULL IS NULL FROM t",
            "SELECT MIN(NULL) + 1, MAX(NULL) || 'x', MIN(NULL) AND TRUE, MIN(NULL) = 1 FROM t");
        probe.reads(4, "INSERT INTO t VALUES (NULL, NULL, NULL)");
        probe.reads(5, "INSERT INTO t SELECT NULL, NULL, NULL FROM t");
        probe.reads(6, "UPDATE t SET a = NULL, b = NULL, c = NULL");
        Probe.due("types", probe.types(), "000");
    }

    /** Reads a text in PREPARE: its parameters have these types. */
    private static void typed(String text, String want) {
        Probe probe = Probe.withTables();
        probe.reads(16, "PREPARE p AS " + text);
        Probe.due("parameters of " + text, probe.list(8, probe.reader.count(8)), want);
    }

    private static void firstNeed() {
        typed("SELECT -$1, $2 + 1, 1 - $3, $4 * 1, 1 / $5, $6 % 1, SUM($7) FROM t", "1 1 1 1 1 1 1");
        typed("SELECT $1 || 'x', 'x' || $2, $3 || $4 FROM t", "2 2 2 2");
        typed("SELECT NOT $1, $2 AND c, c OR $3 FROM t WHERE $4", "3 3 3 3");
        typed("SELECT $1 = a, b <> $2, $3 < c, 1 <= $4, $5 > 'x', TRUE >= $6 FROM t", "1 2 3 1 2 3");
        typed("SELECT $1 = -a, $2 = b || b, $3 = (a = 1), $4 = MIN(a), $5 = MAX(b) FROM t GROUP BY a, b",
            "1 2 3 1 2");
        typed("SELECT $1 BETWEEN 1 AND 2, a BETWEEN $2 AND $3, b IN ($4, $5), $6 IN (TRUE) FROM t", "1 1 1 2 2 3");
        typed("INSERT INTO t VALUES ($1, $2, $3)", "1 2 3");
        typed("INSERT INTO t SELECT $1, $2, $3 FROM u", "1 2 3");
        typed("UPDATE t SET c = $1, b = $2, a = $3 WHERE $4", "3 2 1 3");
        typed("DELETE FROM t WHERE $1", "3");
        typed("SELECT -$1, $1, $1 IS NULL, COUNT($1), $2 = $1 FROM t", "1 1");
        // It comes first before =, and what stands behind that is BOOL.
        typed("SELECT $1 = ($1 IS NULL) FROM t", "3");
        Probe.each(-8, "PREPARE p AS SELECT -$1, $1 || 'x' FROM t", "PREPARE p AS SELECT $1, -$1 FROM t",
            "PREPARE p AS SELECT a FROM t WHERE $1 AND $1 = 1", "PREPARE p AS UPDATE t SET a = $1, b = $1",
            "PREPARE p AS INSERT INTO t VALUES ($1, $1, TRUE)", "PREPARE p AS SELECT $1 = a, NOT $1 FROM t",
            "PREPARE p AS UPDATE t SET a = $1 WHERE $1", "PREPARE p AS SELECT $1 IN (1, 'x') FROM t");
    }

    private static void anyOperand() {
        typed("SELECT COUNT($1) FROM t", "2");
        typed("SELECT MIN($1), MAX($2) FROM t", "2 2");
        typed("SELECT $1 IS NULL, $2 IS NOT NULL FROM t", "2 2");
        typed("SELECT COUNT($1), $1 || 'x' FROM t", "2");
        Probe.each(-8, "PREPARE p AS SELECT COUNT($1), -$1 FROM t", "PREPARE p AS SELECT MIN($1), -$1 FROM t",
            "PREPARE p AS SELECT MAX($1) + 1 FROM t", "PREPARE p AS SELECT $1 IS NULL, -$1 FROM t",
            "PREPARE p AS SELECT $1 IS NOT NULL AND $1 FROM t", "PREPARE p AS SELECT MIN($1) = 1 FROM t");
    }

    private static void anyOtherSide() {
        for (String sign : new String[] {"=", "<>", "<", "<=", ">", ">="}) {
            typed("SELECT $1 " + sign + " NULL, NULL " + sign + " $2 FROM t", "2 2");
            typed("SELECT $1 " + sign + " $2, $3 " + sign + " $3 FROM t", "2 2 2");
            typed("SELECT -$1, $1 " + sign + " $2, $3 " + sign + " $1 FROM t", "1 1 1");
            Probe.each(-8, "PREPARE p AS SELECT $1 " + sign + " NULL, -$1 FROM t",
                "PREPARE p AS SELECT $1 " + sign + " $2, -$1 FROM t",
                "PREPARE p AS SELECT $1 " + sign + " $2, -$2 FROM t",
                "PREPARE p AS SELECT $1 " + sign + " $1 AND $1 FROM t");
        }
        typed("SELECT $1 BETWEEN $2 AND $3, $4 IN ($5, $6), $7 IN (NULL) FROM t", "2 2 2 2 2 2 2");
    }

    private static void itemAlone() {
        typed("SELECT $1, ($2), $3 FROM t", "2 2 2");
        typed("SELECT $1, $1 || 'x', $1 = 'x' FROM t", "2");
        Probe.each(-8, "PREPARE p AS SELECT $1, $1 + 1 FROM t", "PREPARE p AS SELECT $1 FROM t WHERE $1");
    }

    private static void behindAllColumns() {
        // There is one value too many, which is 1, but only if no type is wrong before that.
        Probe.each(-1, "PREPARE p AS INSERT INTO u VALUES (1, $1)",
            "PREPARE p AS INSERT INTO v VALUES (1, 'x', $1), (1, $1)",
            "PREPARE p AS INSERT INTO v SELECT 1, 'x', $1 FROM t WHERE $1 = 'x'",
            "PREPARE p AS INSERT INTO w VALUES ($1)",
            "PREPARE p AS INSERT INTO u VALUES (1, $1 || 'x', $1)");
        Probe.each(-8, "PREPARE p AS INSERT INTO u VALUES (1, $1), ($1)",
            "PREPARE p AS INSERT INTO u SELECT 1, $1 FROM t WHERE $1 = 1",
            "PREPARE p AS INSERT INTO w SELECT $1 FROM t WHERE $1",
            "PREPARE p AS INSERT INTO u VALUES (1, $1, $1 + 1)");
    }

    private static void wideStar() {
        Probe probe = new Probe();
        probe.make("x", EIGHT);
        probe.make("y", "i1");
        probe.make("w", "");
        probe.reads(8, "SELECT * FROM x", "SELECT * FROM x, w");
        Probe.due("eight items", probe.reader.count(1), 8);
        probe.reads(-3, "SELECT * FROM x, y", "SELECT * FROM y, x", "SELECT * FROM x p, x q, x r",
            "INSERT INTO x SELECT * FROM x, y",
            "SELECT * FROM x, y ORDER BY 9", "SELECT * FROM x, y FOR UPDATE", "SELECT * FROM x, y GROUP BY a",
            "PREPARE p AS SELECT * FROM x, y");
        probe.reads(-3, "SELECT * FROM x, y WHERE " + truth(200));
        Probe seven = new Probe();
        seven.make("x", EIGHT.substring(0, 20));
        seven.make("y", "i1");
        seven.make("z", "j1");
        seven.reads(8, "SELECT * FROM x, y", "SELECT 1 FROM x, y, z");
        seven.reads(-3, "SELECT * FROM x, y, z");
    }

    private static void manyNodesWithStar() {
        Probe.each(8, "SELECT * FROM t WHERE " + truth(197), "SELECT * FROM u WHERE " + truth(199),
            "SELECT * FROM w WHERE " + truth(200));
        Probe.each(-2, "SELECT * FROM t WHERE " + truth(198), "SELECT * FROM u WHERE " + truth(200),
            "SELECT * FROM t WHERE " + truth(198) + " ORDER BY 9",
            "SELECT * FROM t WHERE " + truth(198) + " GROUP BY a",
            "INSERT INTO u SELECT * FROM t WHERE " + truth(198),
            "SELECT DISTINCT * FROM t WHERE " + truth(200) + " FOR SHARE");
        Probe probe = new Probe();
        probe.make("x", EIGHT);
        probe.reads(8, "SELECT * FROM x WHERE " + truth(192));
        Probe.due("nodes", probe.reader.count(0), 200);
        Probe.due("the last item", probe.reader.list(0, 7), 199);
        Probe.due("is a place", probe.reader.node(199, 2), 7);
        probe.reads(-2, "SELECT * FROM x WHERE " + truth(193));
    }

    private static void rowSize() {
        Probe.each(4, "INSERT INTO u VALUES (1)", "INSERT INTO t VALUES (1, 'x', TRUE)",
            "INSERT INTO v VALUES (1, 'x'), (2, 'y')");
        Probe.each(-1, "INSERT INTO u VALUES (1, 2)", "INSERT INTO t VALUES (1)", "INSERT INTO t VALUES (1, 'x')",
            "INSERT INTO t VALUES (1, 'x', TRUE, 1)", "INSERT INTO w VALUES (1)", "INSERT INTO v VALUES (1, 'x'), (2)",
            "INSERT INTO v VALUES (1), (2, 'y')", "INSERT INTO v VALUES (1, 'x'), (2, 'y'), (3, 'z', 4)",
            "INSERT INTO v VALUES (1, 'x', 2), (2)", "INSERT INTO u VALUES (1" + ",1".repeat(199) + ")");
        Probe probe = new Probe();
        probe.make("x", EIGHT);
        probe.reads(4, "INSERT INTO x VALUES (1,1,1,1,1,1,1,1)");
        probe.reads(-1, "INSERT INTO x VALUES (1,1,1,1,1,1,1)", "INSERT INTO x VALUES (1,1,1,1,1,1,1,1,1)");
    }

    private static void itemsSize() {
        Probe.each(5, "INSERT INTO u SELECT 1 FROM t", "INSERT INTO t SELECT a, b, c FROM t",
            "INSERT INTO t SELECT * FROM t",
            "INSERT INTO w SELECT * FROM w", "INSERT INTO t SELECT * FROM w, t");
        Probe.each(-1, "INSERT INTO u SELECT 1, 2 FROM t", "INSERT INTO t SELECT a, b FROM t",
            "INSERT INTO t SELECT a, b, c, a FROM t",
            "INSERT INTO w SELECT 1 FROM t", "INSERT INTO t SELECT * FROM w", "INSERT INTO t SELECT * FROM u",
            "INSERT INTO u SELECT * FROM v",
            "INSERT INTO t SELECT * FROM t, u", "INSERT INTO w SELECT * FROM u");
        Probe.each(8, "SELECT 1, 2 FROM u");
    }

    private static void setTwice() {
        Probe.each(6, "UPDATE t SET a = 1, b = 'x', c = TRUE");
        Probe.each(-1, "UPDATE t SET a = 1, a = 1", "UPDATE t SET a = 1, b = 'x', a = 2",
            "UPDATE t SET b = 'x', c = TRUE, c = FALSE",
            "PREPARE p AS UPDATE t SET a = 1, a = 2", "UPDATE t SET a = a, a = a");
        Probe.each(-8, "UPDATE t SET a = 1, a = 'x'", "UPDATE t SET a = 1, a = 2 WHERE 1");
        Probe.each(-6, "UPDATE t SET z = 1, z = 2");
    }

    private static void orders() {
        Probe.each(8, "SELECT a FROM t ORDER BY 1", "SELECT a, b FROM t ORDER BY 2, 1", "SELECT * FROM t ORDER BY 3",
            "SELECT a,a,a,a,a,a,a,a FROM t ORDER BY 8", "SELECT a FROM t ORDER BY 000000000000000001 DESC");
        Probe.each(-1, "SELECT a FROM t ORDER BY 0", "SELECT a FROM t ORDER BY 0 DESC", "SELECT a FROM t ORDER BY 2",
            "SELECT a, b FROM t ORDER BY 3", "SELECT a, b FROM t ORDER BY 1, 2, 3 DESC", "SELECT * FROM t ORDER BY 4",
            "SELECT * FROM w ORDER BY 1", "SELECT a,a,a,a,a,a,a,a FROM t ORDER BY 9",
            "SELECT a,a,a,a,a,a,a,a FROM t ORDER BY 10",
            "INSERT INTO u SELECT a FROM t ORDER BY 2");
        // Numbers that would be 1 or 0 if only their lowest 8, 16 or 32 bits counted.
        Probe.each(-1, "SELECT a FROM t ORDER BY 257", "SELECT a FROM t ORDER BY 65537",
            "SELECT a FROM t ORDER BY 4294967297",
            "SELECT a FROM t ORDER BY 2147483648", "SELECT a FROM t ORDER BY 2147483649",
            "SELECT a FROM t ORDER BY 999999999999999999");
    }

    private static void unprepared() {
        Probe.each(-1, "SELECT $1 FROM t", "SELECT a FROM t WHERE $1", "SELECT a FROM t WHERE a = $9",
            "INSERT INTO u VALUES ($1)",
            "INSERT INTO u SELECT $1 FROM t", "UPDATE t SET a = $1", "UPDATE t SET a = 1 WHERE $1",
            "DELETE FROM t WHERE $1",
            "EXECUTE p ($1)", "EXECUTE p (1, $2 + 1)");
        Probe.each(16, "PREPARE p AS SELECT $1 FROM t", "PREPARE p AS SELECT a FROM t WHERE $9",
            "PREPARE p AS INSERT INTO u VALUES ($1)",
            "PREPARE p AS INSERT INTO u SELECT $1 FROM t", "PREPARE p AS UPDATE t SET a = $1 WHERE $2",
            "PREPARE p AS DELETE FROM t WHERE $1");
        Probe.each(-8, "SELECT -$1, NOT $1 FROM t");
    }

    private static void columnsTwice() {
        Probe.each(1, "CREATE TABLE x (a INT, b INT)", "CREATE TABLE x (x INT)",
            "CREATE TABLE x (a INT, aa INT, ab INT)");
        Probe.each(-1, "CREATE TABLE x (a INT, a INT)", "CREATE TABLE x (a INT, b INT, a TEXT)",
            "CREATE TABLE x (a INT, b INT, b INT)",
            "CREATE TABLE x (a INT,b INT,c INT,d INT,e INT,f INT,g INT,a INT)",
            "CREATE TABLE x (a INT,b INT,c INT,d INT,e INT,f INT,g INT,g INT)");
    }

    private static void aggregateInOne() {
        String[] names = {"COUNT", "SUM", "MIN", "MAX"};
        for (String outer : names) {
            Probe.each(-9, "SELECT " + outer + "(COUNT(*)) FROM t", "SELECT " + outer + "(1 + -COUNT(*)) FROM t");
            for (String inner : names) {
                Probe.each(-9, "SELECT " + outer + "(" + inner + "(a)) FROM t",
                    "SELECT 1, " + outer + "(1 + " + inner + "(a)) FROM t");
                Probe.each(8, "SELECT " + outer + "(a) + " + inner + "(a) FROM t");
            }
        }
        Probe.each(-9, "SELECT COUNT(a IN (1, SUM(a))) FROM t", "SELECT COUNT(SUM(a)) FROM t GROUP BY a",
            "SELECT COUNT(" + "(".repeat(18) + "SUM(a)" + ")".repeat(18) + ") FROM t");
    }

    private static void aggregateBeside() {
        Probe.each(-9, "SELECT COUNT(*), a FROM t", "SELECT a, COUNT(*) FROM t", "SELECT a + COUNT(*) FROM t",
            "SELECT SUM(a) + a FROM t",
            "SELECT MIN(a), 1, b FROM t", "SELECT MAX(a) IN (1, a) FROM t", "INSERT INTO v SELECT COUNT(*), b FROM t");
        Probe.each(8, "SELECT COUNT(*) FROM t", "SELECT COUNT(*), 1, 'x', NULL FROM t",
            "SELECT SUM(a + 1), MIN(b) FROM t",
            "SELECT COUNT(*) FROM t WHERE c", "SELECT a FROM t");
    }

    private static void notGrouped() {
        Probe.each(-9, "SELECT a FROM t GROUP BY b", "SELECT a, b FROM t GROUP BY a", "SELECT a + 1 FROM t GROUP BY b",
            "SELECT * FROM t GROUP BY a, b", "SELECT * FROM t GROUP BY b, c", "SELECT * FROM t GROUP BY a, c",
            "SELECT SUM(a), b FROM t GROUP BY a", "INSERT INTO u SELECT a FROM t GROUP BY b",
            "SELECT a IN (1) FROM t GROUP BY c");
        Probe.each(8, "SELECT a FROM t GROUP BY a", "SELECT b, a FROM t GROUP BY a, b",
            "SELECT a + 1 FROM t GROUP BY a",
            "SELECT * FROM t GROUP BY c, a, b", "SELECT SUM(a), b FROM t GROUP BY b", "SELECT 1 FROM t GROUP BY a",
            "SELECT COUNT(a) FROM t GROUP BY b", "SELECT a FROM t WHERE c GROUP BY a", "SELECT * FROM w, u GROUP BY a");
    }

    private static void sameColumn() {
        Probe.each(8, "SELECT t.a FROM t GROUP BY a", "SELECT a FROM t GROUP BY t.a",
            "SELECT u.a FROM t, u GROUP BY t.a, u.a",
            "SELECT p.a FROM t p, t q GROUP BY p.a", "SELECT q.b FROM t p, t q GROUP BY q.a, q.b");
        Probe.each(-9, "SELECT t.a FROM t, u GROUP BY u.a", "SELECT p.a FROM t p, t q GROUP BY q.a",
            "SELECT q.b FROM t p, t q GROUP BY q.a, p.b",
            "SELECT u.a FROM t, u GROUP BY t.a, t.b", "SELECT d FROM u, v GROUP BY a", "SELECT a FROM u, v GROUP BY d");
    }

    private static void forTables() {
        Probe.each(8, "SELECT a FROM t FOR UPDATE", "SELECT a FROM t FOR SHARE", "SELECT t.a FROM t, u",
            "SELECT a FROM t p FOR SHARE");
        Probe.each(-10, "SELECT t.a FROM t, u FOR UPDATE", "SELECT t.a FROM t, u, v FOR SHARE",
            "SELECT 1 FROM t, w FOR SHARE");
    }

    private static void forDistinct() {
        Probe.each(8, "SELECT DISTINCT a FROM t");
        Probe.each(-10, "SELECT DISTINCT a FROM t FOR UPDATE", "SELECT DISTINCT * FROM t FOR SHARE");
    }

    private static void forGroups() {
        Probe.each(8, "SELECT a FROM t GROUP BY a");
        Probe.each(-10, "SELECT a FROM t GROUP BY a FOR UPDATE", "SELECT 1 FROM t GROUP BY a, b FOR SHARE");
    }

    private static void forAggregates() {
        String[] aggregates = {"COUNT(*)", "COUNT(a)", "SUM(a)", "MIN(a)", "MAX(a)", "1 + COUNT(*)"};
        for (String aggregate : aggregates) {
            Probe.each(8, "SELECT " + aggregate + " FROM t");
            Probe.each(-10, "SELECT " + aggregate + " FROM t FOR UPDATE",
                "SELECT 1, " + aggregate + " FROM t FOR SHARE");
        }
    }

    private static void forInsert() {
        Probe.each(5, "INSERT INTO u SELECT a FROM t");
        Probe.each(-10, "INSERT INTO u SELECT a FROM t FOR UPDATE", "INSERT INTO u SELECT a FROM u FOR SHARE",
            "PREPARE p AS INSERT INTO u SELECT a FROM t FOR UPDATE");
        Probe.each(16, "PREPARE p AS SELECT a FROM t FOR UPDATE");
    }

    /** An error of an earlier time counts, though one of a later time stands before it in the text. */
    private static void fourTimes() {
        Probe.each(-4, "SELECT z FROM zz", "SELECT -b FROM t, zz", "UPDATE zz SET a = 'x' + 1",
            "SELECT a, COUNT(*) FROM zz FOR SHARE");
        Probe.each(-5, "SELECT z FROM t, t", "SELECT -b FROM t, t ORDER BY 9", "SELECT DISTINCT 1 FROM t, t FOR SHARE");
        Probe.each(-6, "SELECT $1 FROM t WHERE z", "SELECT COUNT(COUNT(*)) FROM t WHERE z",
            "INSERT INTO t VALUES (1), (z)",
            "UPDATE t SET a = 1, a = 2, z = 3", "SELECT a FROM t GROUP BY z");
        Probe.each(-8, "SELECT $1 FROM t WHERE a", "SELECT -b FROM t ORDER BY 9", "INSERT INTO u VALUES (1, 2), ('x')",
            "SELECT a, COUNT(*) FROM t WHERE b");
        Probe.each(-1, "SELECT a, COUNT(*) FROM t ORDER BY 3", "SELECT COUNT(COUNT(*)) FROM t ORDER BY 2",
            "SELECT DISTINCT $1 FROM t FOR SHARE",
            "INSERT INTO t SELECT a FROM t GROUP BY b FOR SHARE");
        Probe.each(-9, "SELECT DISTINCT a FROM t GROUP BY b FOR SHARE", "SELECT a, COUNT(*) FROM t FOR UPDATE");
    }
}
