/** Promise 4: column makes a column of the text. */
public final class Promise04ColumnTest {
    public static void main(String[] args) {
        namesTablesAndTypes();
        atMostEight();
        twoOfOneName();
        typesAreKept();
        everyTableHasItsOwn();
        Probe.finish("Promise 4");
    }

    private static void namesTablesAndTypes() {
        Probe probe = new Probe();
        probe.table("t");
        for (String wrong : new String[] {"", "A", "1", "_", "a b", "abcdefghijklmnopq", "a\u0080"}) {
            Probe.due("column " + wrong, probe.column(wrong, 0, 1), -1);
        }
        for (int table : new int[] {-1, 1, 7, 8, Integer.MIN_VALUE, Integer.MAX_VALUE}) {
            Probe.due("column of table " + table, probe.column("a", table, 1), -1);
        }
        for (int type : new int[] {0, -1, 4, Integer.MIN_VALUE, Integer.MAX_VALUE}) {
            Probe.due("column of type " + type, probe.column("a", 0, type), -1);
        }
        Probe.due("a column", probe.column("abcdefghijklmnop", 0, 1), 0);
        probe.reads(8, "SELECT abcdefghijklmnop FROM t");
        probe.reads(-6, "SELECT abcdefghijklmno FROM t", "SELECT a FROM t");
    }

    private static void atMostEight() {
        Probe probe = new Probe();
        probe.table("t");
        for (int i = 0; i < 8; i++) {
            Probe.due("column " + i, probe.column("c" + i, 0, 1 + i % 3), i);
        }
        Probe.due("a ninth", probe.column("x", 0, 1), -1);
        Probe.due("a ninth of a name that is there", probe.column("c2", 0, 1), -1);
        probe.reads(-6, "SELECT x FROM t");
        Probe.due("all of them", probe.read("SELECT * FROM t"), 8);
        Probe.due("are eight", probe.reader.count(1), 8);
    }

    private static void twoOfOneName() {
        Probe probe = Probe.withTables();
        Probe.due("the same", probe.column("b", 0, 1), -2);
        Probe.due("the same as the first", probe.column("a", 0, 1), -2);
        Probe.due("the same with a wrong type", probe.column("b", 0, 4), -1);
        Probe.due("another", probe.column("bb", 0, 1), 3);
        Probe.due("that of the table", probe.column("t", 0, 1), 4);
        Probe.due("type of b is as it was", probe.read("SELECT b || b FROM t"), 8);
    }

    private static void typesAreKept() {
        Probe probe = Probe.withTables();
        Probe.due("read", probe.read("SELECT a, b, c FROM t"), 8);
        Probe.due("types", probe.types(), "123");
    }

    private static void everyTableHasItsOwn() {
        Probe probe = new Probe();
        for (int t = 0; t < 8; t++) {
            probe.table("t" + t);
        }
        for (int c = 0; c < 8; c++) {
            for (int t = 0; t < 8; t++) {
                Probe.due("column " + c + " of " + t, probe.column("c" + (c + t), t, 1 + t % 3), c);
            }
        }
        for (int t = 0; t < 8; t++) {
            Probe.due("first", probe.read("SELECT c" + t + " FROM t" + t), 8);
            Probe.due("place", probe.nodes(), "0.0");
            Probe.due("last", probe.read("SELECT c" + (t + 7) + " FROM t" + t), 8);
            Probe.due("place", probe.nodes(), "0.7");
            Probe.due("type", probe.types(), "" + (1 + t % 3));
            probe.reads(-6, "SELECT c" + (t + 8) + " FROM t" + t);
        }
    }
}
