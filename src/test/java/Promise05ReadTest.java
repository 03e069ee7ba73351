/** Promise 5: read answers the kind of a statement, or the first error below 0. */
public final class Promise05ReadTest {
    public static void main(String[] args) {
        kinds();
        tokens();
        syntaxOfStatements();
        syntaxOfExpressions();
        depth();
        manyNodes();
        longLists();
        tables();
        places();
        types();
        typesOfInsertAndSet();
        measures();
        groups();
        locks();
        theFirstErrorCounts();
        oneObjectGoesOn();
        Probe.finish("Promise 5");
    }

    private static void reads(int want, String... texts) {
        Probe.each(want, texts);
    }

    private static void kinds() {
        reads(1, "CREATE TABLE x (y INT)", "CREATE TABLE t (a TEXT NOT NULL, b BOOL UNIQUE)");
        reads(2, "CREATE INDEX ON t (a)", "CREATE UNIQUE INDEX ON v (e)");
        reads(3, "DROP TABLE t");
        reads(4, "INSERT INTO t VALUES (1, 'x', TRUE)", "INSERT INTO u VALUES (1), (2), (NULL)");
        reads(5, "INSERT INTO t SELECT * FROM t", "INSERT INTO u SELECT d + 1 FROM v WHERE d > 2");
        reads(6, "UPDATE t SET a = 1", "UPDATE t SET a = 1, b = 'x' WHERE c");
        reads(7, "DELETE FROM t", "DELETE FROM t WHERE a = 1");
        reads(8, "SELECT * FROM t", "SELECT DISTINCT p.a, b FROM t p, u q WHERE p.c ORDER BY 1");
        reads(9, "BEGIN", "BEGIN READ COMMITTED", "BEGIN REPEATABLE READ", "BEGIN SERIALIZABLE");
        reads(10, "COMMIT");
        reads(11, "ROLLBACK");
        reads(12, "SAVEPOINT s");
        reads(13, "ROLLBACK TO s");
        reads(14, "RELEASE s");
        reads(15, "LOCK t SHARE", "LOCK t ACCESS EXCLUSIVE");
        reads(16, "PREPARE p AS SELECT a FROM t", "PREPARE p AS DELETE FROM t",
            "PREPARE p AS UPDATE t SET a = 1", "PREPARE p AS INSERT INTO u VALUES ($1)",
            "PREPARE p AS INSERT INTO u SELECT a FROM t");
        reads(17, "EXECUTE p", "EXECUTE p (1)", "EXECUTE p (1, 'x', NULL, TRUE AND FALSE)");
        reads(18, "VACUUM t");
        reads(19, "CHECKPOINT");
        reads(10, "COMMIT;", " COMMIT ; ");
        reads(16, "PREPARE p AS SELECT a FROM t;");
    }

    private static void tokens() {
        reads(8, "SELECT a FROM t LIMIT 5FOR UPDATE", "SELECT(a)FROM t", "SELECT a,b FROM t;",
            "SELECT 1+p.a FROM t,u p", "SELECT aFROMt",
            "   SELECT   a   FROM   t   ", "SELECT t . a FROM t", "SELECT'x'FROM t",
            "SELECT a FROM t WHERE a<=1", "SELECT a FROM t WHERE a< -1",
            "SELECT '' FROM t", "SELECT '''' FROM t", "SELECT (b)||(b) FROM t", "SELECT ' ~' FROM t",
            "SELECT 000000000000000000 FROM t", "SELECT 999999999999999999 FROM t",
            "SELECT '1234567890123456789012345678901' FROM t",
            "SELECT '" + "''".repeat(31) + "' FROM t");
        reads(-1, "SELECTA FROM t", "SELECT '" + "''".repeat(32) + "' FROM t",
            "SELECT a FROM t WHERE a < = 1", "SELECT a FROM t WHERE a > = 1",
            "SELECT a FROM t WHERE a < > 1", "SELECT b | | b FROM t", "SELECT b | b FROM t",
            "SELECT 0000000000000000000 FROM t", "SELECT 'x FROM t", "SELECT ''' FROM t",
            "SELECT '12345678901234567890123456789012' FROM t", "SELECT 'a' 'b' FROM t",
            "SELECT 'a\u001f' FROM t", "SELECT 'a\u007f' FROM t", "SELECT 'a\u00e9' FROM t",
            "SELECT a\u0000FROM t", "SELECT a\tFROM t", "SELECT a\nFROM t", "SELECT \"a\" FROM t",
            "SELECT abcdefghijklmnopq FROM t", "SELECT _a FROM t", "SELECT a FROM t #",
            "SELECT a != 1 FROM t", "SELECT a == 1 FROM t", "SELECT a FROM t WHERE a => 1",
            "select a from t", "Select a FROM t", "SELECT a FROM t LIMIT 1_", "SELECT [a] FROM t");
        reads(16, "PREPARE p AS SELECT $1, $9 FROM t", "PREPARE p AS SELECT$1FROM t");
        reads(-1, "PREPARE p AS SELECT $0 FROM t", "PREPARE p AS SELECT $ FROM t",
            "PREPARE p AS SELECT $12 FROM t", "PREPARE p AS SELECT $ 1 FROM t",
            "PREPARE p AS SELECT $a FROM t");
    }

    private static void syntaxOfStatements() {
        reads(-1, "", " ", ";", "COMMIT;;", "; COMMIT", "COMMIT COMMIT", "COMMIT x", "a", "1", "FOO",
            "PREPARE p AS SELECT a FROM t;;", "'COMMIT'",
            "CREATE", "CREATE TABLE", "CREATE TABLE x", "CREATE TABLE x ()", "CREATE TABLE x (y)",
            "CREATE TABLE x (INT)", "CREATE TABLE x (y INT", "CREATE TABLE x (y INT,)",
            "CREATE TABLE x (y INT UNIQUE NOT NULL)", "CREATE TABLE x (y INT NOT)",
            "CREATE TABLE x (y INT NULL)", "CREATE TABLE x (y FOO)", "CREATE TABLE X (y INT)",
            "CREATE TABLE x (y INT UNIQUE UNIQUE)", "CREATE TABLE x.y (z INT)",
            "CREATE INDEX t (a)", "CREATE INDEX ON t", "CREATE INDEX ON t ()",
            "CREATE INDEX ON t (a, b)", "CREATE INDEX ON t (t.a)", "CREATE UNIQUE TABLE x (y INT)",
            "CREATE INDEX x ON t (a)", "DROP t", "DROP TABLE", "DROP TABLE t, u", "DROP TABLE t u",
            "INSERT", "INSERT INTO", "INSERT INTO u SELECT", "UPDATE", "DELETE", "DROP", "LOCK",
            "INSERT t VALUES (1)", "INSERT INTO VALUES (1)", "INSERT INTO t", "INSERT INTO t (1)",
            "INSERT INTO t VALUES", "INSERT INTO t VALUES ()", "INSERT INTO t VALUES 1",
            "INSERT INTO u VALUES (1),", "INSERT INTO u VALUES (1) (2)", "INSERT INTO u VALUES (1,)",
            "INSERT INTO u (SELECT a FROM u)", "INSERT INTO u VALUES (COUNT(*))",
            "UPDATE SET a = 1", "UPDATE t", "UPDATE t SET", "UPDATE t SET a", "UPDATE t SET a =",
            "UPDATE t SET a = 1,", "UPDATE t SET t.a = 1", "UPDATE t p SET a = 1",
            "UPDATE t SET (a) = 1", "UPDATE t SET a = 1 WHERE", "UPDATE t SET a = SUM(a)",
            "UPDATE t WHERE c", "DELETE t", "DELETE FROM", "DELETE FROM t u", "DELETE FROM t WHERE",
            "DELETE FROM t, u", "DELETE FROM t WHERE COUNT(*) = 1");
        reads(-1, "SELECT", "SELECT FROM t", "SELECT a", "SELECT a FROM", "SELECT a, FROM t",
            "SELECT a FROM t,", "SELECT *, a FROM t", "SELECT a, * FROM t", "SELECT DISTINCT FROM t",
            "SELECT a DISTINCT FROM t", "SELECT t.* FROM t", "SELECT a FROM t p q",
            "SELECT a FROM t AS p", "SELECT a AS b FROM t", "SELECT a b FROM t",
            "SELECT a FROM (SELECT a FROM t)", "SELECT a FROM t WHERE", "SELECT a FROM t GROUP a",
            "SELECT a FROM t GROUP BY", "SELECT a FROM t GROUP BY 1", "SELECT a FROM t GROUP BY (a)",
            "SELECT a FROM t GROUP BY a + 1", "SELECT a FROM t ORDER 1", "SELECT a FROM t ORDER BY a",
            "SELECT a FROM t ORDER BY", "SELECT a FROM t ORDER BY -1", "SELECT a FROM t ORDER BY 1,",
            "SELECT a FROM t ORDER BY 1 DESC DESC", "SELECT a FROM t LIMIT", "SELECT a FROM t LIMIT a",
            "SELECT a FROM t LIMIT -1", "SELECT a FROM t LIMIT 1 + 1", "SELECT a FROM t FOR",
            "SELECT a FROM t FOR LOCK", "SELECT a FROM t FOR UPDATE FOR SHARE",
            "SELECT a FROM t FOR UPDATE LIMIT 1", "SELECT a FROM t LIMIT 1 ORDER BY 1",
            "SELECT a FROM t ORDER BY 1 GROUP BY a", "SELECT a FROM t GROUP BY a WHERE c",
            "SELECT a FROM t WHERE c WHERE c", "SELECT a FROM t WHERE COUNT(*) = 1");
        reads(-1, "BEGIN READ", "BEGIN COMMITTED", "BEGIN REPEATABLE", "BEGIN READ REPEATABLE",
            "BEGIN SERIALIZABLE READ", "COMMIT TO s", "ROLLBACK s", "ROLLBACK TO", "SAVEPOINT",
            "SAVEPOINT S", "RELEASE", "RELEASE SAVEPOINT s", "LOCK t", "LOCK SHARE", "LOCK t ACCESS",
            "LOCK t ROW", "LOCK t UPDATE", "LOCK t SHARE UPDATE", "LOCK t SHARE ROW",
            "LOCK t SHARE EXCLUSIVE", "LOCK t ROW SHARE EXCLUSIVE", "LOCK t EXCLUSIVE EXCLUSIVE",
            "LOCK t ACCESS ROW", "PREPARE p", "PREPARE p AS", "PREPARE AS SELECT a FROM t",
            "PREPARE p SELECT a FROM t", "PREPARE p AS COMMIT", "PREPARE p AS CREATE TABLE x (y INT)",
            "PREPARE p AS DROP TABLE t", "PREPARE p AS EXECUTE q", "PREPARE p AS BEGIN",
            "PREPARE p AS PREPARE q AS SELECT a FROM t", "PREPARE p AS LOCK t SHARE",
            "PREPARE p AS CREATE INDEX ON t (a)", "PREPARE p AS VACUUM t", "PREPARE p AS CHECKPOINT",
            "EXECUTE", "EXECUTE p ()", "EXECUTE p 1", "EXECUTE p (1", "EXECUTE p (1,)",
            "EXECUTE p (1) (2)", "EXECUTE p (COUNT(*))", "VACUUM", "VACUUM t u", "CHECKPOINT t");
    }

    private static void syntaxOfExpressions() {
        reads(8, "SELECT NOT NOT c FROM t", "SELECT - - a FROM t", "SELECT -a * -a FROM t",
            "SELECT NOT a = 1 AND NOT c OR c FROM t", "SELECT (a = 1) = (a = 2) FROM t",
            "SELECT a NOT IN (1) FROM t", "SELECT a NOT BETWEEN 1 AND 2 AND c FROM t",
            "SELECT a IS NULL, a IS NOT NULL FROM t", "SELECT c IN (a = 1, NOT c OR c) FROM t",
            "SELECT a BETWEEN 1 + 1 AND 2 * 3 OR c FROM t", "SELECT NOT a IN (1) FROM t",
            "SELECT ((((a)))) FROM t", "SELECT COUNT ( * ), COUNT(a), SUM(a), MIN(a), MAX(b) FROM t");
        reads(-1, "SELECT a = 1 = 2 FROM t", "SELECT a < 1 < 2 FROM t", "SELECT a IS NULL IS NULL FROM t",
            "SELECT a IS NULL = c FROM t", "SELECT a = 1 IS NULL FROM t",
            "SELECT a BETWEEN 1 AND 2 = c FROM t", "SELECT a = 1 BETWEEN 1 AND 2 FROM t",
            "SELECT a IN (1) IN (c) FROM t", "SELECT NOT a = 1 = c FROM t",
            "SELECT c AND a = 1 = c FROM t", "SELECT c OR a = 1 = c FROM t",
            "SELECT c = NOT c FROM t", "SELECT - NOT c FROM t", "SELECT a + NOT c FROM t",
            "SELECT a BETWEEN NOT c AND 2 FROM t", "SELECT a BETWEEN 1 AND NOT c FROM t",
            "SELECT a BETWEEN 1 FROM t", "SELECT a BETWEEN 1, 2 FROM t", "SELECT a BETWEEN 1 OR 2 FROM t",
            "SELECT a NOT FROM t", "SELECT a NOT = 1 FROM t", "SELECT a NOT NULL FROM t",
            "SELECT a IS FROM t", "SELECT a IS NOT FROM t", "SELECT a IS TRUE FROM t",
            "SELECT a IN FROM t", "SELECT a IN 1 FROM t", "SELECT a IN () FROM t",
            "SELECT a IN (1 FROM t", "SELECT a IN (1,) FROM t", "SELECT a NOT NOT IN (1) FROM t",
            "SELECT a + FROM t", "SELECT + a FROM t", "SELECT a * * a FROM t", "SELECT () FROM t",
            "SELECT (a FROM t", "SELECT a) FROM t", "SELECT (a, b) FROM t", "SELECT a. FROM t",
            "SELECT .a FROM t", "SELECT t.a.b FROM t", "SELECT 1.5 FROM t", "SELECT a 1 FROM t",
            "SELECT AND c FROM t", "SELECT c AND FROM t", "SELECT c OR OR c FROM t", "SELECT NOT FROM t",
            "SELECT COUNT FROM t", "SELECT COUNT() FROM t", "SELECT COUNT a FROM t",
            "SELECT SUM(*) FROM t", "SELECT MIN(*) FROM t", "SELECT MAX() FROM t",
            "SELECT COUNT(a, b) FROM t", "SELECT COUNT(* FROM t", "SELECT COUNT(*, a) FROM t",
            "SELECT COUNT(DISTINCT a) FROM t", "SELECT t(a) FROM t", "SELECT SELECT FROM t");
    }

    private static String deep(String before, String inside, String behind, int n) {
        return "SELECT " + before.repeat(n) + inside + behind.repeat(n) + " FROM t";
    }

    private static void depth() {
        reads(8, deep("(", "a", ")", 20), deep("-", "a", "", 20), deep("NOT ", "c", "", 20),
            deep("a IN (", "a", ")", 1), deep("-(", "a", ")", 10), deep("(a + ", "a", ")", 20),
            deep("(", "COUNT(*)", ")", 20), deep("(", "COUNT(a)", ")", 19),
            deep("(", "a IN (1)", ")", 19) , deep("NOT (", "c", ")", 10),
            deep("(", "a NOT BETWEEN 1 AND 2", ")", 20), deep("(", "a IS NOT NULL", ")", 20),
            deep("c IN (", "c", ")", 6), "SELECT " + "-a+".repeat(40) + "a FROM t",
            "SELECT " + "(a)+".repeat(40) + "a FROM t");
        reads(-1, deep("(", "a", ")", 21), deep("-", "a", "", 21), deep("NOT ", "c", "", 21),
            deep("-(", "a", ")", 11), deep("(", "COUNT(a)", ")", 20), deep("(", "a IN (1)", ")", 20),
            deep("(", "MAX(a)", ")", 20), deep("(", "SUM(a)", ")", 20), deep("(", "MIN(a)", ")", 20),
            deep("(", "NOT c", ")", 20), deep("(", "-a", ")", 20), deep("(", "COUNT(*)", ")", 21),
            deep("(", "a", ")", 400), deep("-", "a", "", 900), deep("NOT ", "c", "", 400),
            deep("(", "", "", 1900), deep("-(", "", "", 900), deep("1 IN (", "1", "", 250));
        String wide = "1 < 2 OR 1 < 2 AND 1 BETWEEN 0 || 0 + 0 * (";
        reads(-1, deep(wide, "1", ")", 40), deep(wide, "", "", 40));
        reads(-8, deep("0 = 1 OR 0 = 1 AND 0 BETWEEN 0 || 0 + 0 * (", "1", ") AND 1", 1));
        reads(4, "INSERT INTO u VALUES (" + "(".repeat(20) + "1" + ")".repeat(20) + ")");
        reads(-1, "INSERT INTO u VALUES (" + "(".repeat(21) + "1" + ")".repeat(21) + ")");
        reads(17, "EXECUTE p (" + "(".repeat(20) + "1" + ")".repeat(20) + ")");
        reads(6, "UPDATE t SET a = " + "-".repeat(20) + "a WHERE " + "NOT ".repeat(20) + "c");
        reads(-1, "UPDATE t SET a = " + "-".repeat(21) + "a", "DELETE FROM t WHERE " + "NOT ".repeat(21) + "c");
        reads(8, "SELECT 1 FROM t WHERE a IN (" + "-".repeat(19) + "1, 2, " + "-".repeat(19) + "3)");
        reads(-1, "SELECT 1 FROM t WHERE a IN (1, " + "-".repeat(20) + "1)",
            "SELECT 1 FROM t WHERE a IN (" + "-".repeat(20) + "1, 1)");
    }

    private static void manyNodes() {
        String sum = "1" + "+1".repeat(99);
        reads(8, "SELECT " + sum + " FROM t", "SELECT -(1" + "+1".repeat(98) + ") FROM t WHERE c");
        reads(-2, "SELECT -(" + sum + " + 1) FROM t", "SELECT " + sum + " FROM t WHERE c AND c",
            "SELECT 1" + "+1".repeat(500) + " FROM t", "SELECT 1 IN (1" + ",1".repeat(300) + ") FROM t",
            "SELECT " + sum + " FROM zzz WHERE c AND c", "SELECT a" + ", a".repeat(300) + " FROM t",
            "SELECT a FROM t GROUP BY a" + ", a".repeat(300), "EXECUTE p (1" + ",1".repeat(300) + ")",
            "INSERT INTO u VALUES (1)" + ",(1)".repeat(300), "UPDATE t SET a = 1" + ",a=1".repeat(300),
            "SELECT 1" + "+1".repeat(90) + " BETWEEN 1 AND 2 FROM t",
            "SELECT 1" + "+1".repeat(60) + " BETWEEN 1 AND 2 OR 1 IN (1,2,3,4,5,6,7,8,9) FROM t");
        reads(-1, "SELECT 1" + "+1".repeat(500) + " FROM", "SELECT 1" + "+1".repeat(500) + "+ FROM t");
        // x of 3 nodes: 4 with a value, then 5 for each of the others, and OR between them
        reads(8, "SELECT (1+1) IN (1" + ",1".repeat(32) + ") FROM t");
        reads(-2, "SELECT (1+1) IN (1" + ",1".repeat(33) + ") FROM t");
        reads(4, "INSERT INTO u VALUES (1)" + ",(1)".repeat(199));
        reads(-2, "INSERT INTO u VALUES (1)" + ",(1)".repeat(200));
        reads(17, "EXECUTE p (1" + ",1".repeat(199) + ")");
        reads(-2, "EXECUTE p (1" + ",1".repeat(200) + ")");
    }

    private static void longLists() {
        reads(8, "SELECT a,a,a,a,a,a,a,a FROM t", "SELECT t.a FROM t, u, v",
            "SELECT a FROM t GROUP BY a,b,c,a", "SELECT a FROM t ORDER BY 1,1,1,1");
        reads(-3, "SELECT a,a,a,a,a,a,a,a,a FROM t", "SELECT t.a FROM t, u, v, w",
            "SELECT a FROM t GROUP BY a,b,c,a,b", "SELECT a FROM t ORDER BY 1,1,1,1,1",
            "SELECT zz,a,a,a,a,a,a,a,a FROM zz", "INSERT INTO zz SELECT a FROM t, u, v, w",
            "CREATE TABLE x (a INT,b INT,c INT,d INT,e INT,f INT,g INT,h INT,i INT)",
            "CREATE TABLE x (a INT,a INT,a INT,a INT,a INT,a INT,a INT,a INT,a INT)",
            "UPDATE t SET a=1,a=1,a=1,a=1,a=1,a=1,a=1,a=1,a=1");
        reads(1, "CREATE TABLE x (a INT,b INT,c INT,d INT,e INT,f INT,g INT,h INT)");
        Probe probe = new Probe();
        probe.make("x", "a1 b1 c1 d1 e1 f1 g1 h1");
        probe.reads(6, "UPDATE x SET a=1,b=1,c=1,d=1,e=1,f=1,g=1,h=1");
    }

    private static void tables() {
        reads(-4, "SELECT a FROM x", "SELECT a FROM t, x", "DROP TABLE x", "CREATE INDEX ON x (a)",
            "INSERT INTO x VALUES (1)", "INSERT INTO x SELECT a FROM t", "INSERT INTO t SELECT a FROM x",
            "UPDATE x SET a = 1", "DELETE FROM x", "LOCK x SHARE", "VACUUM x",
            "PREPARE p AS SELECT a FROM x", "SELECT a FROM p t", "SELECT a FROM tt", "SELECT a FROM t, x, t");
        reads(-5, "SELECT 1 FROM t, t", "SELECT 1 FROM t p, u p", "SELECT 1 FROM t, u t",
            "SELECT 1 FROM t u, u", "SELECT 1 FROM t, u, t", "SELECT zz FROM t, t",
            "INSERT INTO u SELECT 1 FROM t, t", "SELECT 1 FROM t, t, x");
        reads(8, "SELECT 1 FROM t, t p", "SELECT 1 FROM t u, u t", "SELECT 1 FROM t p, t q, t r");
        reads(5, "INSERT INTO u SELECT 1 FROM u");
        reads(1, "CREATE TABLE t (a INT)", "CREATE TABLE zz (a INT)");
        reads(12, "SAVEPOINT zz");
    }

    private static void places() {
        reads(-6, "SELECT z FROM t", "SELECT t.z FROM t", "SELECT p.z FROM t p", "SELECT a FROM t GROUP BY z",
            "SELECT a FROM t WHERE z", "UPDATE t SET z = 1", "UPDATE t SET a = z", "DELETE FROM t WHERE z",
            "CREATE INDEX ON t (z)", "INSERT INTO u VALUES (a)", "EXECUTE p (a)", "SELECT t FROM t",
            "SELECT a FROM w", "SELECT COUNT(z) FROM t", "UPDATE t SET a = d", "SELECT u.b FROM t, u");
        reads(-4, "SELECT x.a FROM t", "SELECT t.a FROM t p", "SELECT u.a FROM t", "UPDATE t SET a = u.a",
            "DELETE FROM t WHERE u.a = 1", "INSERT INTO u VALUES (u.a)", "EXECUTE p (t.a)",
            "INSERT INTO u SELECT u.a FROM t", "SELECT a FROM t GROUP BY x.a");
        reads(-7, "SELECT a FROM t, u", "SELECT b FROM t, t p", "SELECT t.a FROM t, u WHERE a = 1",
            "SELECT t.a FROM t, u GROUP BY a", "SELECT a FROM t p, t q");
        reads(8, "SELECT b FROM t, u", "SELECT u.a, t.a FROM t, u", "SELECT p.a FROM t p",
            "SELECT u.b FROM t u, u t", "SELECT t.a FROM t WHERE t.c");
        reads(6, "UPDATE t SET a = a + 1", "UPDATE t SET a = t.a WHERE t.c AND c", "UPDATE t SET c = a = 1");
        reads(7, "DELETE FROM t WHERE t.a = a");
        reads(5, "INSERT INTO u SELECT t.a FROM t");
    }

    private static void types() {
        reads(-8, "SELECT -b FROM t", "SELECT -c FROM t", "SELECT a + b FROM t", "SELECT b - a FROM t",
            "SELECT a * c FROM t", "SELECT a / 'x' FROM t", "SELECT TRUE % a FROM t", "SELECT a || b FROM t",
            "SELECT b || 1 FROM t", "SELECT b || c FROM t", "SELECT NOT a FROM t", "SELECT NOT b FROM t",
            "SELECT c AND a FROM t", "SELECT b AND c FROM t", "SELECT c OR 1 FROM t", "SELECT SUM(b) FROM t",
            "SELECT SUM(c) FROM t", "SELECT MIN(c) FROM t", "SELECT MAX(a = 1) FROM t", "SELECT a = b FROM t",
            "SELECT a <> c FROM t", "SELECT b < c FROM t", "SELECT a <= 'x' FROM t", "SELECT c > 1 FROM t",
            "SELECT 'x' >= 1 FROM t", "SELECT a IN ('x') FROM t", "SELECT a IN (1, 'x') FROM t",
            "SELECT a BETWEEN 'x' AND 2 FROM t", "SELECT a BETWEEN 1 AND 'x' FROM t",
            "SELECT a FROM t WHERE a", "SELECT a FROM t WHERE b", "SELECT a FROM t WHERE 'x' || b",
            "DELETE FROM t WHERE a", "UPDATE t SET a = 1 WHERE 1", "SELECT MIN(b) + 1 FROM t",
            "SELECT MAX(a) || 'x' FROM t", "SELECT COUNT(b) || 'x' FROM t", "SELECT COUNT(*) AND c FROM t",
            "EXECUTE p (1 + 'x')");
        reads(8, "SELECT -a + a - a * a / a % a FROM t", "SELECT b || 'x' || NULL FROM t",
            "SELECT NULL + NULL, -NULL, NOT NULL, NULL AND NULL, NULL = NULL, NULL = 1 FROM t",
            "SELECT 1 = NULL, 'x' = NULL, SUM(NULL), MIN(NULL) + 1, MIN(NULL) || 'x' FROM t",
            "SELECT MIN(NULL) AND TRUE, COUNT(NULL), COUNT(c) FROM t", "SELECT a FROM t WHERE NULL",
            "SELECT c = c, c < c, b < b, a < a, (a = 1) <> c FROM t", "SELECT MIN(a) + 1, MAX(b) || 'x' FROM t",
            "SELECT a IS NULL AND b IS NULL AND c IS NOT NULL FROM t", "SELECT a FROM t WHERE c IN (TRUE, a = 1)",
            "SELECT b BETWEEN 'a' AND 'b' FROM t", "SELECT c BETWEEN c AND c FROM t");
        reads(16, "PREPARE p AS SELECT $1 + 1, $1 * $1 FROM t", "PREPARE p AS SELECT $1 AND $1 IS NULL FROM t",
            "PREPARE p AS SELECT a FROM t WHERE $1", "PREPARE p AS SELECT $1 || 'x', $2, $2 || 'x' FROM t",
            "PREPARE p AS SELECT a = $1, $1 + 1 FROM t", "PREPARE p AS SELECT $1 = a, $1 + 1 FROM t",
            "PREPARE p AS SELECT $1 = $2, $1 || $2 FROM t", "PREPARE p AS SELECT $1 = (a = 1) AND $1 FROM t");
        reads(-8, "PREPARE p AS SELECT $1 + 1, $1 || 'x' FROM t", "PREPARE p AS SELECT $1, $1 + 1 FROM t",
            "PREPARE p AS SELECT $1 IS NULL AND $1 FROM t", "PREPARE p AS SELECT COUNT($1), $1 + 1 FROM t",
            "PREPARE p AS SELECT MIN($1), $1 + 1 FROM t", "PREPARE p AS SELECT $1 = NULL, $1 + 1 FROM t",
            "PREPARE p AS SELECT $1 = $2, $2 + 1 FROM t", "PREPARE p AS SELECT $1 IN (NULL, 3) FROM t",
            "PREPARE p AS SELECT a FROM t WHERE $1 AND $1 = 1");
    }

    private static void typesOfInsertAndSet() {
        reads(-8, "INSERT INTO t VALUES ('x', 'x', TRUE)", "INSERT INTO t VALUES (1, 1, TRUE)",
            "INSERT INTO t VALUES (1, 'x', 1)", "INSERT INTO t VALUES (1, 'x', TRUE), (1, 'x', 'x')",
            "INSERT INTO t VALUES ('x')", "INSERT INTO u VALUES ('x', 'y')", "INSERT INTO t SELECT b, b, c FROM t",
            "INSERT INTO t SELECT a, b, a FROM t", "INSERT INTO u SELECT b FROM t", "INSERT INTO v SELECT c, b FROM t",
            "INSERT INTO t SELECT * FROM v, t", "INSERT INTO v SELECT * FROM u, t", "UPDATE t SET a = 'x'",
            "UPDATE t SET b = 1", "UPDATE t SET c = a", "UPDATE t SET a = 1, b = b = b");
        reads(5, "INSERT INTO t SELECT d, e, TRUE FROM u, v", "INSERT INTO v SELECT d + 1, NULL FROM v",
            "INSERT INTO u SELECT * FROM u");
        reads(4, "INSERT INTO t VALUES (NULL, NULL, NULL), (-1, 'x' || 'y', 1 = 2)");
        reads(6, "UPDATE t SET a = NULL, b = NULL, c = NULL", "UPDATE t SET c = a IN (1, 2)");
    }

    private static void measures() {
        Probe wide = new Probe();
        wide.make("x", "a1 b1 c1 d1 e1");
        wide.make("y", "f1 g1 h1");
        wide.make("z", "i1");
        wide.reads(8, "SELECT * FROM x, y", "SELECT * FROM x");
        wide.reads(-3, "SELECT * FROM x, y, z", "SELECT * FROM x p, x q", "INSERT INTO z SELECT * FROM x, y, z",
            "SELECT * FROM x, y, z ORDER BY 9");
        String sum = "1" + "+1".repeat(95);
        wide.reads(8, "SELECT * FROM x, y WHERE " + sum + " IS NULL");
        wide.reads(-2, "SELECT * FROM x, y WHERE NOT " + sum + " IS NULL", "SELECT * FROM x, y WHERE " + sum
            + " + 1 IS NULL ORDER BY 9");
        reads(-1, "INSERT INTO t VALUES (1, 'x')", "INSERT INTO t VALUES (1, 'x', TRUE, 1)",
            "INSERT INTO u VALUES (1), (1, 2)", "INSERT INTO u VALUES (1, 2), (1)", "INSERT INTO w VALUES (1)",
            "INSERT INTO t SELECT a FROM t", "INSERT INTO u SELECT a, b FROM t", "INSERT INTO u SELECT * FROM t",
            "INSERT INTO u SELECT * FROM w", "INSERT INTO t SELECT * FROM u", "UPDATE t SET a = 1, a = 2",
            "UPDATE t SET a = 1, b = 'x', a = 1", "SELECT a FROM t ORDER BY 0", "SELECT a FROM t ORDER BY 2",
            "SELECT a FROM t ORDER BY 1, 2 DESC", "SELECT * FROM t ORDER BY 4", "SELECT * FROM w ORDER BY 1",
            "SELECT a FROM t ORDER BY 999999999999999999", "SELECT a FROM t ORDER BY 4294967297",
            "SELECT $1 FROM t", "INSERT INTO u VALUES ($1)", "UPDATE t SET a = $1", "DELETE FROM t WHERE $1",
            "EXECUTE p ($1)", "INSERT INTO u SELECT $1 FROM t", "CREATE TABLE x (a INT, a TEXT)",
            "CREATE TABLE x (a INT, b INT, c INT, b BOOL)");
        reads(5, "INSERT INTO w SELECT * FROM w", "INSERT INTO t SELECT * FROM t p");
        reads(8, "SELECT * FROM t ORDER BY 3, 1 DESC", "SELECT a FROM t ORDER BY 000000000000000001");
        reads(1, "CREATE TABLE x (x INT, y INT)");
    }

    private static void groups() {
        reads(-9, "SELECT COUNT(COUNT(*)) FROM t", "SELECT SUM(MIN(a)) FROM t", "SELECT MAX(1 + SUM(a)) FROM t",
            "SELECT a, COUNT(*) FROM t", "SELECT COUNT(*), a FROM t", "SELECT a + SUM(a) FROM t",
            "SELECT a FROM t GROUP BY b", "SELECT * FROM t GROUP BY a", "SELECT * FROM t GROUP BY b, c",
            "SELECT a + d FROM t, v GROUP BY a",
            "SELECT t.a FROM t, u GROUP BY u.a", "SELECT p.a FROM t p, t q GROUP BY q.a",
            "SELECT a, MIN(b) FROM t GROUP BY b", "INSERT INTO u SELECT a FROM t GROUP BY b",
            "SELECT u.a FROM t, u GROUP BY b, t.a",
            "SELECT COUNT(COUNT(a)) FROM t FOR UPDATE", "SELECT a IN (SUM(a)) FROM t");
        reads(8, "SELECT COUNT(*) FROM t", "SELECT COUNT(*) + SUM(a) FROM t", "SELECT a, COUNT(*) FROM t GROUP BY a",
            "SELECT a + 1, b || MIN(b) FROM t GROUP BY a, b", "SELECT * FROM t GROUP BY a, b, c",
            "SELECT * FROM t GROUP BY c, t.b, a", "SELECT t.a FROM t GROUP BY a", "SELECT SUM(a + 1) FROM t GROUP BY b",
            "SELECT 1 FROM t GROUP BY b", "SELECT COUNT(*) FROM t WHERE a = 1", "SELECT MIN(a) BETWEEN 1 AND 2 FROM t",
            "SELECT * FROM w, u GROUP BY a", "SELECT a FROM t GROUP BY a, a",
            "SELECT SUM(a) IN (1, COUNT(b)) FROM t");
    }

    private static void locks() {
        reads(-10, "SELECT t.a FROM t, u FOR UPDATE", "SELECT DISTINCT a FROM t FOR SHARE",
            "SELECT a FROM t GROUP BY a FOR UPDATE", "SELECT COUNT(*) FROM t FOR SHARE",
            "SELECT 1 + MAX(a) FROM t FOR SHARE", "INSERT INTO u SELECT a FROM t FOR UPDATE",
            "PREPARE p AS SELECT COUNT(*) FROM t FOR UPDATE", "PREPARE p AS INSERT INTO u SELECT a FROM u FOR SHARE");
        reads(8, "SELECT a FROM t FOR UPDATE", "SELECT * FROM t p WHERE c ORDER BY 1 LIMIT 3 FOR SHARE");
        reads(16, "PREPARE p AS SELECT a FROM t FOR SHARE");
        reads(15, "LOCK t EXCLUSIVE");
        reads(9, "BEGIN SERIALIZABLE");
    }

    private static void theFirstErrorCounts() {
        reads(-4, "SELECT z FROM x", "SELECT a + b FROM t, x", "SELECT x.a, b + 1 FROM t");
        reads(-6, "SELECT z + b FROM t", "SELECT b + z FROM t", "SELECT z, x.a FROM t", "UPDATE t SET z = b + 1",
            "UPDATE t SET a = 1, z = 'x' + 1", "UPDATE t SET a = 1, z = x.y", "SELECT 'x' || 1 + z FROM t",
            "SELECT z FROM t, u ORDER BY 9", "INSERT INTO u VALUES (z, 'x')");
        reads(-7, "SELECT a + b FROM t, u", "SELECT a + z FROM t, u");
        reads(-8, "SELECT b + 1, z FROM t", "SELECT b + 1 FROM t WHERE z", "UPDATE t SET a = 'x', z = 1",
            "INSERT INTO u SELECT b FROM t WHERE z", "INSERT INTO v SELECT * FROM u, t WHERE z = 1",
            "INSERT INTO u VALUES ('x'), (1, 2)", "SELECT -b FROM t ORDER BY 9", "SELECT $1 + b FROM t",
            "INSERT INTO u VALUES ('x', z)", "UPDATE t SET a = b, a = 1 WHERE z", "SELECT COUNT(-b), a FROM t",
            "INSERT INTO u SELECT 'x' FROM t GROUP BY z");
        reads(-1, "SELECT a, COUNT(*) FROM t ORDER BY 3", "SELECT DISTINCT a FROM t ORDER BY 2 FOR UPDATE",
            "INSERT INTO t SELECT a FROM t FOR UPDATE", "SELECT COUNT($1), a FROM t", "SELECT z FROM x ORDER");
        reads(-9, "SELECT a, COUNT(*) FROM t FOR UPDATE", "SELECT DISTINCT a FROM t GROUP BY b FOR SHARE");
    }

    /** What one text was read as does not touch the next, error or not. */
    private static void oneObjectGoesOn() {
        Probe probe = Probe.withTables();
        String[] wrongs = {"SELECT 1" + "+1".repeat(150) + " FROM t", "SELECT a FROM t ORDER BY 1,1,1,1,1", "SELECT (",
            "SELECT MIN(", "PREPARE p AS", "SELECT * FROM zz", "SELECT DISTINCT a FROM t LIMIT 2 FOR SHARE",
            "CREATE UNIQUE INDEX ON t (z)", "UPDATE t SET a = $1 WHERE c"};
        for (String wrong : wrongs) {
            probe.read(wrong);
            probe.reads(4, "INSERT INTO u VALUES (1)");
            probe.shows("SELECT a FROM t WHERE a = 1", "0.0 0.0 1 17(1,2)");
        }
        String[] fine = {"SELECT * FROM t", "PREPARE p AS SELECT $1 FROM t", "SELECT COUNT(*) FROM t"};
        for (String text : fine) {
            probe.read(text);
            probe.shows("INSERT INTO u VALUES (1)", "1");
            probe.reads(-1, "DELETE FROM t WHERE COUNT(*) = 1");
            probe.read(text);
            probe.shows("DELETE FROM t WHERE c", "0.2");
            Probe.due("kind in PREPARE", probe.reader.count(14), 0);
        }
    }
}
