/** Promise 6: node tells a node's kind, operands and type. */
public final class Promise06NodeTest {
    public static void main(String[] args) {
        orderOfOperations();
        leaves();
        ranges();
        orderInTheStatement();
        placesAndStars();
        types();
        parameterTypes();
        wrongNumbers();
        Probe.finish("Promise 6");
    }

    private static void item(String text, String want) {
        Probe.withTables().shows("SELECT " + text + " FROM t", want);
    }

    private static void orderOfOperations() {
        item("1 + 2 * 3", "1 2 3 13(1,2) 11(0,3)");
        item("(1 + 2) * 3", "1 2 11(0,1) 3 13(2,3)");
        item("1 - 2 - 3", "1 2 12(0,1) 3 12(2,3)");
        item("1 / 2 % 3 * 4", "1 2 14(0,1) 3 15(2,3) 4 13(4,5)");
        item("1 - (2 + 3)", "1 2 3 11(1,2) 12(0,3)");
        item("- 1 * 2", "1 10(0) 2 13(1,2)");
        item("- - 1", "1 10(0) 10(1)");
        item("1 - - 2", "1 2 10(1) 12(0,2)");
        item("- (1 + 2)", "1 2 11(0,1) 10(2)");
        item("'a' || 'b' || 'c'", "'a' 'b' 16(0,1) 'c' 16(2,3)");
        item("1 + 2 = 3", "1 2 11(0,1) 3 17(2,3)");
        item("1 = 2 + 3", "1 2 3 11(1,2) 17(0,3)");
        item("1 <> 2", "1 2 18(0,1)");
        item("1 < 2", "1 2 19(0,1)");
        item("1 <= 2", "1 2 20(0,1)");
        item("1 > 2", "1 2 21(0,1)");
        item("1 >= 2", "1 2 22(0,1)");
        item("1 IS NULL", "1 23(0)");
        item("1 + 2 IS NOT NULL", "1 2 11(0,1) 24(2)");
        item("NOT 1 = 2", "1 2 17(0,1) 25(2)");
        item("NOT c AND c", "0.2 25(0) 0.2 26(1,2)");
        item("NOT (c AND c)", "0.2 0.2 26(0,1) 25(2)");
        item("c OR c AND c", "0.2 0.2 0.2 26(1,2) 27(0,3)");
        item("c AND c OR c", "0.2 0.2 26(0,1) 0.2 27(2,3)");
        item("c OR c OR c", "0.2 0.2 27(0,1) 0.2 27(2,3)");
        item("c AND NOT NOT c AND c", "0.2 0.2 25(1) 25(2) 26(0,3) 0.2 26(4,5)");
        item("1 = 2 AND 3 = 4 OR c", "1 2 17(0,1) 3 4 17(3,4) 26(2,5) 0.2 27(6,7)");
        item("COUNT(*) + COUNT(a) + SUM(a + 1)", "5(-1) 0.0 6(1) 11(0,2) 0.0 1 11(4,5) 7(6) 11(3,7)");
        item("MIN(a) = MAX(a)", "0.0 8(0) 0.0 9(2) 17(1,3)");
        item("((a))", "0.0");
    }

    private static void leaves() {
        item("NULL, 7, 'x', TRUE, FALSE, a", "NULL 7 'x' TRUE FALSE 0.0");
        Probe.withTables().shows("PREPARE p AS SELECT $9, $1, $9 FROM t", "$9 $1 $9");
        Probe probe = Probe.withTables();
        probe.read("SELECT NULL, 7, 'x', TRUE, FALSE, b FROM t");
        int[][] want = {{0, -1, -1, 0}, {1, -1, -1, 1}, {2, -1, -1, 2}, {3, 1, -1, 3}, {3, 0, -1, 3},
            {4, 0, 1, 2}};
        for (int k = 0; k < want.length; k++) {
            for (int what = 0; what < 4; what++) {
                Probe.due("node " + k + " " + what, probe.reader.node(k, what), want[k][what]);
            }
        }
        probe.read("PREPARE p AS SELECT $4 FROM t");
        int[] parameter = {28, 4, -1, 2};
        for (int what = 0; what < 4; what++) {
            Probe.due("parameter " + what, probe.reader.node(0, what), parameter[what]);
        }
        probe.read("SELECT COUNT(*), MIN(2) FROM t");
        int[][] aggregates = {{5, -1, -1, 1}, {1, -1, -1, 1}, {8, 1, -1, 1}};
        for (int k = 0; k < aggregates.length; k++) {
            for (int what = 0; what < 4; what++) {
                Probe.due("node " + k + " " + what, probe.reader.node(k, what), aggregates[k][what]);
            }
        }
    }

    private static void ranges() {
        item("a BETWEEN 1 AND 2", "0.0 1 22(0,1) 0.0 2 20(3,4) 26(2,5)");
        item("a NOT BETWEEN 1 AND 2", "0.0 1 22(0,1) 0.0 2 20(3,4) 26(2,5) 25(6)");
        item("a + 1 BETWEEN 2 * 3 AND - 4 AND c",
            "0.0 1 11(0,1) 2 3 13(3,4) 22(2,5) 0.0 1 11(7,8) 4 10(10) 20(9,11) 26(6,12) 0.2 26(13,14)");
        item("c OR a BETWEEN 1 AND 2", "0.2 0.0 1 22(1,2) 0.0 2 20(4,5) 26(3,6) 27(0,7)");
        item("a IN (1)", "0.0 1 17(0,1)");
        item("a IN (1, 2)", "0.0 1 17(0,1) 0.0 2 17(3,4) 27(2,5)");
        item("a IN (1, 2, 3)", "0.0 1 17(0,1) 0.0 2 17(3,4) 27(2,5) 0.0 3 17(7,8) 27(6,9)");
        item("a NOT IN (1, 2)", "0.0 1 17(0,1) 0.0 2 17(3,4) 27(2,5) 25(6)");
        item("NOT a NOT IN (1)", "0.0 1 17(0,1) 25(2) 25(3)");
        item("-(a + 1) IN (4, 5)",
            "0.0 1 11(0,1) 10(2) 4 17(3,4) 0.0 1 11(6,7) 10(8) 5 17(9,10) 27(5,11)");
        item("'x' || b IN ('y', 'z')",
            "'x' 0.1 16(0,1) 'y' 17(2,3) 'x' 0.1 16(5,6) 'z' 17(7,8) 27(4,9)");
        item("(a BETWEEN 1 AND 2) IN (TRUE, FALSE)",
            "0.0 1 22(0,1) 0.0 2 20(3,4) 26(2,5) TRUE 17(6,7) "
            + "0.0 1 22(9,10) 0.0 2 20(12,13) 26(11,14) FALSE 17(15,16) 27(8,17)");
        item("c IN (a IN (1), TRUE)",
            "0.2 0.0 1 17(1,2) 17(0,3) 0.2 TRUE 17(5,6) 27(4,7)");
        item("NULL IN (NULL, 1)", "NULL NULL 17(0,1) NULL 1 17(3,4) 27(2,5)");
        item("COUNT(*) BETWEEN 1 AND 2", "5(-1) 1 22(0,1) 5(-1) 2 20(3,4) 26(2,5)");
        item("COUNT(a) IN (1, 2)", "0.0 6(0) 1 17(1,2) 0.0 6(4) 2 17(5,6) 27(3,7)");
        item("SUM(a) IN (1, 2)", "0.0 7(0) 1 17(1,2) 0.0 7(4) 2 17(5,6) 27(3,7)");
        Probe.withTables().shows("PREPARE p AS SELECT $3 IN (1, 2), TRUE IN (FALSE, $1) FROM t",
            "$3 1 17(0,1) $3 2 17(3,4) 27(2,5) TRUE FALSE 17(7,8) TRUE $1 17(10,11) 27(9,12)");
    }

    private static void orderInTheStatement() {
        Probe.withTables().shows("SELECT a, 1 FROM t WHERE c GROUP BY a, t.b ORDER BY 2 LIMIT 9",
            "0.0 1 0.2 0.0 0.1");
        Probe.withTables().shows("SELECT * FROM t WHERE a = 5 GROUP BY a, b, c",
            "0.0 5 17(0,1) 0.0 0.1 0.2 0.0 0.1 0.2");
        Probe.withTables().shows("INSERT INTO v VALUES (1, 'x'), (2 + 3, NULL)", "1 'x' 2 3 11(2,3) NULL");
        Probe.withTables().shows("UPDATE t SET b = 'x', a = a + 1 WHERE a = 2",
            "'x' 0.0 1 11(1,2) 0.0 2 17(4,5)");
        Probe.withTables().shows("DELETE FROM t WHERE t.c", "0.2");
        Probe.withTables().shows("EXECUTE p (1, 2 + 3, 'x')", "1 2 3 11(1,2) 'x'");
        Probe.withTables().shows("INSERT INTO u SELECT d FROM v WHERE e = 'x'", "0.0 0.1 'x' 17(1,2)");
        Probe.withTables().shows("COMMIT", "");
        Probe.withTables().shows("CREATE TABLE x (y INT)", "");
    }

    private static void placesAndStars() {
        Probe.withTables().shows("SELECT e, u.a, t.a, d FROM t, u, v", "2.1 1.0 0.0 2.0");
        Probe.withTables().shows("SELECT q.a, p.a, q.b FROM t p, t q", "1.0 0.0 1.1");
        Probe.withTables().shows("SELECT * FROM u, w, t p", "0.0 2.0 2.1 2.2");
        Probe.withTables().shows("SELECT * FROM w", "");
        Probe.withTables().shows("SELECT a FROM w, u", "1.0");
        Probe probe = Probe.withTables();
        probe.read("SELECT * FROM u, t p, v WHERE p.c");
        Probe.due("types with *", probe.types(), "3112312");
    }

    private static void types() {
        Probe probe = Probe.withTables();
        probe.read("SELECT a, b, c, 1, 'x', TRUE, NULL FROM t");
        Probe.due("types of leaves", probe.types(), "1231230");
        probe.read("SELECT COUNT(*), COUNT(c), SUM(a), MIN(a), MIN(b), MAX(b), MAX(NULL) FROM t");
        Probe.due("types of aggregates", probe.types(), "1" + "31" + "11" + "11" + "22" + "22" + "00");
        probe.read("SELECT -1, 1+1, 1-1, 1*1, 1/1, 1%1, 'x'||'x' FROM t");
        Probe.due("types of reckoning", probe.types(), "11" + "111".repeat(5) + "222");
        probe.read("SELECT 1=1, 1<>1, 1<1, 1<=1, 1>1, 1>=1, 1 IS NULL, 1 IS NOT NULL FROM t");
        Probe.due("types of comparisons", probe.types(), "113".repeat(6) + "13".repeat(2));
        probe.read("SELECT NOT TRUE, TRUE AND TRUE, NULL OR NULL, -NULL, NULL || NULL FROM t");
        Probe.due("types of truth and NULL", probe.types(), "33" + "333" + "003" + "01" + "002");
        probe.read("SELECT MIN(NULL) + 1, MIN(MIN(a)) = 1 FROM t");
        Probe.due("nothing behind an error", probe.types(), "");
    }

    private static void parameters(String text, String want) {
        Probe probe = Probe.withTables();
        int kind = probe.read("PREPARE p AS " + text);
        Probe.due("types of " + text, kind < 0 ? "error " + kind : probe.types(), want);
    }

    private static void parameterTypes() {
        parameters("SELECT $1 FROM t", "2");
        parameters("SELECT $1 + $2, $1 FROM t", "1111");
        parameters("SELECT -$1 FROM t", "11");
        parameters("SELECT SUM($1) FROM t", "11");
        parameters("SELECT $1 || $2 FROM t", "222");
        parameters("SELECT NOT $1, $2 AND $3, $4 OR $5 FROM t", "33333333");
        parameters("SELECT COUNT($1), MIN($2), MAX($3) FROM t", "212222");
        parameters("SELECT $1 IS NULL, $2 IS NOT NULL FROM t", "2323");
        parameters("SELECT $1 = 1, $2 < 'x', $3 <> TRUE, 1 >= $4 FROM t", "113" + "223" + "333" + "113");
        parameters("SELECT $1 = NULL, NULL = $2, $3 = $4, $5 = $5 FROM t", "203" + "023" + "223" + "223");
        parameters("SELECT $1 + 1, $2 = $1, $1 = $3 FROM t", "111" + "113" + "113");
        parameters("SELECT $1 = a, b = $2, $3 = (c AND c), $4 = -1 FROM t",
            "113" + "223" + "33333" + "1113");
        parameters("SELECT $1 = MIN(a), $2 = MAX($3), $4 = MIN(NULL) FROM t GROUP BY a",
            "1113" + "2223" + "2003" + "1");
        parameters("SELECT $1 BETWEEN 1 AND $2, a BETWEEN $3 AND $4 FROM t", "1131133" + "1131133");
        parameters("SELECT $1 IN ($2, 'x'), a IN ($3, $4) FROM t", "2232233" + "1131133");
        parameters("SELECT a FROM t WHERE $1", "13");
        parameters("SELECT ($1), ($2) = a FROM t", "2113");
        parameters("INSERT INTO t VALUES ($1, $2, $3), ($1, $2, $3)", "123123");
        parameters("INSERT INTO t SELECT $1, $2, $3 FROM t", "123");
        parameters("UPDATE t SET b = $1, c = $2, a = $3 WHERE $4", "2313");
        parameters("DELETE FROM t WHERE $1 = a", "113");
    }

    private static void wrongNumbers() {
        Probe probe = Probe.withTables();
        probe.read("SELECT a + 1 FROM t");
        for (int k : new int[] {-1, 3, 200, Integer.MIN_VALUE, Integer.MAX_VALUE}) {
            for (int what = 0; what < 4; what++) {
                Probe.due("node " + k + " " + what, probe.reader.node(k, what), -1);
            }
        }
        for (int what : new int[] {-1, 4, Integer.MIN_VALUE, Integer.MAX_VALUE}) {
            Probe.due("node 0 " + what, probe.reader.node(0, what), -1);
        }
        probe.read("SELECT a FROM t");
        Probe.due("a node of the statement before", probe.reader.node(1, 0), -1);
    }
}
