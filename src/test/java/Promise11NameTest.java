/** Promise 11: name tells the bytes of a statement's names. */
public final class Promise11NameTest {
    public static void main(String[] args) {
        titles();
        columns();
        othersHaveNone();
        wrongNumbers();
        typingChangesNothing();
        Probe.finish("Promise 11");
    }

    private static void titled(String text, String want) {
        Probe probe = Probe.withTables();
        Probe.due("read " + text, probe.read(text) > 0 ? 1 : 0, 1);
        Probe.due("name of " + text, probe.name(-1), want);
    }

    private static void titles() {
        titled("CREATE TABLE abc (d INT)", "abc");
        titled("SAVEPOINT s_1", "s_1");
        titled("ROLLBACK TO abcdefghijklmnop", "abcdefghijklmnop");
        titled("RELEASE r", "r");
        titled("PREPARE query AS SELECT a FROM t", "query");
        titled("PREPARE q AS INSERT INTO u VALUES (1)", "q");
        titled("EXECUTE e2", "e2");
        titled("EXECUTE e3 (1, 'x')", "e3");
    }

    private static void columns() {
        Probe probe = Probe.withTables();
        probe.read("CREATE TABLE x (a INT, bc TEXT NOT NULL, abcdefghijklmnop BOOL, d_9 INT)");
        String[] want = {"a", "bc", "abcdefghijklmnop", "d_9", ""};
        for (int k = 0; k < want.length; k++) {
            Probe.due("column " + k, probe.name(k), want[k]);
        }
        probe.read("CREATE TABLE x (a INT,b INT,c INT,d INT,e INT,f INT,g INT,h INT)");
        Probe.due("the eighth", probe.name(7), "h");
        Probe.due("a ninth", probe.name(8), "");
    }

    private static void othersHaveNone() {
        String[] texts = {"CREATE INDEX ON t (a)", "DROP TABLE t", "INSERT INTO u VALUES (1)",
            "INSERT INTO u SELECT a FROM t", "UPDATE t SET a = 1", "DELETE FROM t", "SELECT a FROM t", "BEGIN",
            "COMMIT", "ROLLBACK", "LOCK t SHARE", "VACUUM t", "CHECKPOINT"};
        for (String text : texts) {
            titled(text, "");
            Probe probe = Probe.withTables();
            probe.read("PREPARE p AS SELECT a FROM t");
            probe.read(text);
            Probe.due("name -1 of " + text, probe.reader.name(-1, 0), -1);
            Probe.due("name 0 of " + text, probe.reader.name(0, 0), -1);
        }
        Probe probe = Probe.withTables();
        probe.read("PREPARE p AS UPDATE t SET a = 1");
        Probe.due("columns set have no names", probe.reader.name(0, 0), -1);
        probe.read("SAVEPOINT s");
        Probe.due("a savepoint has no columns", probe.reader.name(0, 0), -1);
    }

    private static void wrongNumbers() {
        Probe probe = Probe.withTables();
        probe.read("CREATE TABLE xy (abc INT)");
        for (int i : new int[] {-1, 3, 16, 31, 32, Integer.MIN_VALUE, Integer.MAX_VALUE}) {
            Probe.due("name 0 " + i, probe.reader.name(0, i), -1);
            Probe.due("name -1 " + i, probe.reader.name(-1, i), -1);
        }
        Probe.due("name -1 2", probe.reader.name(-1, 2), -1);
        for (int k : new int[] {-2, 1, 8, 200, Integer.MIN_VALUE, Integer.MAX_VALUE}) {
            Probe.due("name " + k, probe.reader.name(k, 0), -1);
        }
    }

    private static void typingChangesNothing() {
        Probe probe = Probe.withTables();
        probe.read("CREATE TABLE xy (abc INT)");
        probe.type("zzzzzzzzzzzzzzzzzzzzzzzz");
        Probe.due("name", probe.name(-1), "xy");
        probe.reader.table();
        probe.table("n");
        Probe.due("column", probe.name(0), "abc");
        probe.read("CREATE TABLE xy (abc INT");
        Probe.due("behind an error", probe.reader.name(-1, 0), -1);
    }
}
