/** Promise 1: an empty catalog; nothing typed or read. */
public final class Promise01NewObjectTest {
    public static void main(String[] args) {
        nothingIsRead(new Counted(), "new");
        nothingIsTyped();
        catalogIsEmpty();
        objectsAreApart();
        nothingIsLeftBehindAnError();
        Probe.finish("Promise 1");
    }

    private static void nothingIsRead(Counted reader, String when) {
        for (int k = -2; k < 3; k++) {
            for (int what = -1; what < 5; what++) {
                Probe.due(when + " node " + k + " " + what, reader.node(k, what), -1);
            }
            Probe.due(when + " value " + k, reader.value(k), 0);
            Probe.due(when + " letter " + k, reader.letter(k, 0), -1);
            Probe.due(when + " name " + k, reader.name(k, 0), -1);
        }
        for (int what = -1; what <= 18; what++) {
            boolean none = what < 0 || what == 12 || what == 13 || what == 15 || what == 16
                || what == 18;
            Probe.due(when + " count " + what, reader.count(what), none ? -1 : 0);
        }
        for (int which = -1; which <= 14; which++) {
            Probe.due(when + " list " + which, reader.list(which, 0), -1);
        }
    }

    private static void nothingIsTyped() {
        Probe.due("read of nothing", new SqlReader().read(), -1);
        Probe.due("table of nothing", new SqlReader().table(), -1);
        Probe probe = new Probe();
        probe.table("t");
        Probe.due("column of nothing", probe.reader.column(0, 1), -1);
    }

    private static void catalogIsEmpty() {
        Probe probe = new Probe();
        Probe.due("column without tables", probe.column("a", 0, 1), -1);
        probe.reads(-4, "DROP TABLE t", "SELECT 1 FROM t");
        Probe.due("first table", probe.table("t"), 0);
        Probe.due("first column", probe.column("a", 0, 1), 0);
    }

    private static void objectsAreApart() {
        Probe one = Probe.withTables();
        Probe other = new Probe();
        one.reads(8, "SELECT a FROM t");
        other.reads(-4, "SELECT a FROM t");
        Probe.due("nodes of the one", one.reader.count(0), 1);
        Probe.due("nodes of the other", other.reader.count(0), 0);
    }

    private static void nothingIsLeftBehindAnError() {
        String[] wrongs = {"x", "SELECT z FROM t", "SELECT a FROM t FOR", "SELECT b FROM t WHERE b",
            "SELECT COUNT(*), a FROM t", "CREATE TABLE x (y INT, y INT)",
            "UPDATE t SET a = 1, a = 2 WHERE c", "LOCK x SHARE", "CREATE UNIQUE INDEX ON t(z)",
            "INSERT INTO t VALUES (1, 'a', TRUE), (1)", "SELECT DISTINCT a FROM t LIMIT 3 FOR SHARE",
            "PREPARE p AS SELECT $3 + 1, $3 || 'a' FROM t", "EXECUTE p (1, $2)", "SAVEPOINT s s"};
        for (String text : wrongs) {
            Probe probe = Probe.withTables();
            probe.read("PREPARE p AS UPDATE t SET a = $1 WHERE c");
            Probe.due("read " + text, probe.read(text) < 0 ? 1 : 0, 1);
            nothingIsRead(probe.reader, "behind " + text + ":");
        }
    }
}
