/** Promise 9: count tells how many there are of what, and the rest of a statement. */
public final class Promise09CountTest {
    private static final int[] NONE = {0, 0, 0, 0, 0, 0, 0, 0, 0, 0, 0, 0, -1, -1, 0, -1, -1, 0};

    public static void main(String[] args) {
        queries();
        changes();
        others();
        modes();
        limits();
        parameters();
        prepared();
        wrongNumbers();
        Probe.finish("Promise 9");
    }

    /** Reads a text; what differs from nothing is told by pairs: what, how many. */
    private static void counts(String text, int... pairs) {
        Probe probe = Probe.withTables();
        Probe.due("read " + text, probe.read(text) > 0 ? 1 : 0, 1);
        int[] want = NONE.clone();
        for (int i = 0; i < pairs.length; i += 2) {
            want[pairs[i]] = pairs[i + 1];
        }
        for (int what = 0; what < want.length; what++) {
            Probe.due("count " + what + " of " + text, probe.reader.count(what), want[what]);
        }
    }

    private static void queries() {
        counts("SELECT a FROM t", 0, 1, 1, 1, 4, 1);
        counts("SELECT DISTINCT p.a, b, 1 FROM t p, u WHERE c GROUP BY p.a, b ORDER BY 1, 2 DESC, 3 LIMIT 7",
            0, 6, 1, 3, 2, 2, 3, 3, 4, 2, 11, 1, 12, 7, 13, 3);
        counts("SELECT * FROM t, u, v WHERE t.a = 1", 0, 9, 1, 6, 4, 3, 13, 2);
        counts("SELECT * FROM w", 4, 1);
        counts("SELECT a FROM t FOR SHARE", 0, 1, 1, 1, 4, 1, 10, 1);
        counts("SELECT a FROM t FOR UPDATE", 0, 1, 1, 1, 4, 1, 10, 2);
        counts("SELECT COUNT(*), SUM(a) + 1 FROM t", 0, 5, 1, 2, 4, 1);
    }

    private static void changes() {
        counts("INSERT INTO t VALUES (1, 'x', TRUE), (2, 'y', FALSE)", 0, 6, 6, 2, 15, 0);
        counts("INSERT INTO v SELECT * FROM v WHERE d = 1", 0, 5, 1, 2, 4, 1, 13, 2, 15, 2);
        counts("INSERT INTO u SELECT t.a FROM t, u", 0, 1, 1, 1, 4, 2, 15, 1);
        counts("INSERT INTO w SELECT * FROM w", 4, 1, 15, 3);
        counts("UPDATE t SET a = 1 + 1, b = 'x'", 0, 4, 4, 1, 5, 2, 15, 0);
        counts("UPDATE v SET d = 1 WHERE e = 'x'", 0, 4, 4, 1, 5, 1, 13, 3, 15, 2);
        counts("DELETE FROM u", 4, 1, 15, 1);
        counts("DELETE FROM u WHERE a IS NULL", 0, 2, 4, 1, 13, 1, 15, 1);
    }

    private static void others() {
        counts("CREATE TABLE x (y INT, z TEXT)", 7, 2);
        counts("CREATE INDEX ON t (c)", 15, 0, 16, 2);
        counts("CREATE UNIQUE INDEX ON v (d)", 15, 2, 16, 0, 17, 1);
        counts("DROP TABLE v", 15, 2);
        counts("COMMIT");
        counts("ROLLBACK");
        counts("SAVEPOINT s");
        counts("ROLLBACK TO s");
        counts("RELEASE s");
        counts("EXECUTE p");
        counts("EXECUTE p (1, 2 + 3)", 0, 4, 9, 2);
        counts("VACUUM u", 15, 1);
        counts("CHECKPOINT");
    }

    private static void modes() {
        counts("BEGIN");
        counts("BEGIN READ COMMITTED");
        counts("BEGIN REPEATABLE READ", 10, 1);
        counts("BEGIN SERIALIZABLE", 10, 2);
        String[] modes = {"ACCESS SHARE", "ROW SHARE", "ROW EXCLUSIVE", "SHARE UPDATE EXCLUSIVE", "SHARE",
            "SHARE ROW EXCLUSIVE", "EXCLUSIVE", "ACCESS EXCLUSIVE"};
        for (int i = 0; i < modes.length; i++) {
            counts("LOCK u " + modes[i], 10, i + 1, 15, 1);
        }
    }

    private static void limits() {
        counts("SELECT a FROM t LIMIT 0", 0, 1, 1, 1, 4, 1, 12, 0);
        counts("SELECT a FROM t LIMIT 2147483647", 0, 1, 1, 1, 4, 1, 12, 2147483647);
        counts("SELECT a FROM t LIMIT 2147483648", 0, 1, 1, 1, 4, 1, 12, 2147483647);
        counts("SELECT a FROM t LIMIT 999999999999999999", 0, 1, 1, 1, 4, 1, 12, 2147483647);
    }

    private static void parameters() {
        counts("PREPARE p AS SELECT $1 FROM t", 0, 1, 1, 1, 4, 1, 8, 1, 14, 8);
        counts("PREPARE p AS SELECT $7, $2 FROM t", 0, 2, 1, 2, 4, 1, 8, 7, 14, 8);
        counts("PREPARE p AS DELETE FROM t WHERE a IN ($9, $9)", 0, 7, 4, 1, 8, 9, 13, 6, 14, 7, 15, 0);
    }

    private static void prepared() {
        counts("PREPARE p AS INSERT INTO u VALUES (1)", 0, 1, 6, 1, 14, 4, 15, 1);
        counts("PREPARE p AS INSERT INTO u SELECT a FROM t", 0, 1, 1, 1, 4, 1, 14, 5, 15, 1);
        counts("PREPARE p AS UPDATE v SET d = 1", 0, 1, 4, 1, 5, 1, 14, 6, 15, 2);
        counts("PREPARE p AS DELETE FROM v", 4, 1, 14, 7, 15, 2);
        counts("PREPARE p AS SELECT DISTINCT a FROM t LIMIT 3", 0, 1, 1, 1, 4, 1, 11, 1, 12, 3, 14, 8);
        counts("PREPARE p AS SELECT a FROM t FOR UPDATE", 0, 1, 1, 1, 4, 1, 10, 2, 14, 8);
    }

    private static void wrongNumbers() {
        Probe probe = Probe.withTables();
        probe.read("SELECT a FROM t");
        for (int what : new int[] {-1, 18, 19, Integer.MIN_VALUE, Integer.MAX_VALUE}) {
            Probe.due("count " + what, probe.reader.count(what), -1);
        }
    }
}
