/** Promise 10: list tells the entries of a statement's lists. */
public final class Promise10ListTest {
    public static void main(String[] args) {
        queries();
        changes();
        columnTypes();
        parameterTypes();
        wrongNumbers();
        Probe.finish("Promise 10");
    }

    /** Reads a text; one list has these entries, and none before or behind them. */
    private static void has(String text, int which, String want) {
        Probe probe = Probe.withTables();
        Probe.due("read " + text, probe.read(text) > 0 ? 1 : 0, 1);
        int size = want.isEmpty() ? 0 : want.split(" ").length;
        Probe.due("list " + which + " of " + text, probe.list(which, size), want);
        for (int i : new int[] {-1, size, size + 1, 200, Integer.MIN_VALUE, Integer.MAX_VALUE}) {
            Probe.due("list " + which + " " + i + " of " + text, probe.reader.list(which, i), -1);
        }
    }

    private static void queries() {
        String query = "SELECT t.a + 1, b, 'x' FROM t, u p WHERE c GROUP BY b, t.a"
            + " ORDER BY 2 DESC, 3, 1, 1 DESC";
        has(query, 0, "2 3 4");
        has(query, 1, "6 7");
        has(query, 2, "-2 2 0 -1");
        has(query, 3, "0 1");
        for (int which = 4; which < 10; which++) {
            has(query, which, "");
        }
        has("SELECT * FROM u, v WHERE d = 1", 0, "3 4 5");
        has("SELECT * FROM u, v WHERE d = 1", 3, "1 2");
        has("SELECT * FROM w", 0, "");
        has("SELECT p.a, q.a FROM t p, t q, w", 3, "0 0 3");
        has("SELECT a,a,a,a,a,a,a,a FROM t ORDER BY 8, 8 DESC", 0, "0 1 2 3 4 5 6 7");
        has("SELECT a,a,a,a,a,a,a,a FROM t ORDER BY 8, 8 DESC", 2, "7 -8");
    }

    private static void changes() {
        has("INSERT INTO v VALUES (1, 'x'), (1 + 2, NULL)", 6, "0 1 4 5");
        has("INSERT INTO v VALUES (1, 'x'), (1 + 2, NULL)", 3, "");
        has("INSERT INTO v SELECT * FROM v", 0, "0 1");
        has("INSERT INTO v SELECT * FROM v", 3, "2");
        has("UPDATE t SET c = TRUE, a = 1 + 2 WHERE c", 4, "2 0");
        has("UPDATE t SET c = TRUE, a = 1 + 2 WHERE c", 5, "0 3");
        has("UPDATE v SET e = 'x'", 3, "2");
        has("DELETE FROM v", 3, "2");
        has("EXECUTE p (1, 2 + 3, 'x')", 9, "0 3 4");
        has("EXECUTE p (1, 2 + 3, 'x')", 6, "");
        has("EXECUTE p", 9, "");
        has("DROP TABLE v", 3, "");
        StringBuilder all = new StringBuilder("0");
        for (int i = 1; i < 200; i++) {
            all.append(" ").append(i);
        }
        has("INSERT INTO u VALUES (1)" + ",(1)".repeat(199), 6, all.toString());
        has("EXECUTE p (1" + ",1".repeat(199) + ")", 9, all.toString());
    }

    private static void columnTypes() {
        has("CREATE TABLE x (a INT, b TEXT, c BOOL, d INT NOT NULL, e TEXT NOT NULL UNIQUE, f BOOL UNIQUE)", 7,
            "1 2 3 11 32 23");
        has("CREATE TABLE x (a INT NOT NULL UNIQUE)", 7, "31");
    }

    private static void parameterTypes() {
        has("PREPARE p AS UPDATE t SET b = $2, a = $1 WHERE c = $4", 8, "1 2 0 3");
        has("PREPARE p AS SELECT $9 + 1 FROM t", 8, "0 0 0 0 0 0 0 0 1");
        has("PREPARE p AS SELECT $3, $1 = $2, $2 FROM t", 8, "2 2 2");
        has("PREPARE p AS SELECT a FROM t WHERE $2 AND $2 IS NULL", 8, "0 3");
        has("PREPARE p AS SELECT a FROM t", 8, "");
    }

    private static void wrongNumbers() {
        Probe probe = Probe.withTables();
        probe.read("UPDATE t SET a = 1 WHERE c");
        for (int which : new int[] {-1, 10, 11, 12, 13, 14, Integer.MIN_VALUE, Integer.MAX_VALUE}) {
            Probe.due("list " + which, probe.reader.list(which, 0), -1);
        }
        probe.read("CREATE TABLE x (y INT)");
        Probe.due("list 13", probe.reader.list(13, 0), -1);
        probe.read("COMMIT");
        Probe.due("an entry of the statement before", probe.reader.list(7, 0), -1);
    }
}
