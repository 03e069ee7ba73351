/** Promise 3: table makes a table of the text. */
public final class Promise03TableTest {
    public static void main(String[] args) {
        names();
        atMostEight();
        twoOfOneName();
        Probe.finish("Promise 3");
    }

    private static void names() {
        String[] wrongs = {"", "A", "1a", "_a", "a b", " a", "a ", "aB", "a-b", "a.b", "\u0000",
            "a\u0000", "a\u00e9", "{", "`", "a{", "abcdefghijklmnopq", "SELECT"};
        Probe probe = new Probe();
        for (String wrong : wrongs) {
            Probe.due("table " + wrong, probe.table(wrong), -1);
        }
        String[] fine = {"a", "z", "a_", "a9", "a0_z", "abcdefghijklmnop", "z_____________99"};
        for (int i = 0; i < fine.length; i++) {
            Probe.due("table " + fine[i], probe.table(fine[i]), i);
            Probe.due("it is there", probe.read("DROP TABLE " + fine[i]), 3);
            Probe.due("under its number", probe.reader.count(15), i);
            Probe.due("without columns", probe.read("SELECT * FROM " + fine[i]), 8);
            Probe.due("so that there is no item", probe.reader.count(1), 0);
        }
    }

    private static void atMostEight() {
        Probe probe = new Probe();
        for (int i = 0; i < 8; i++) {
            Probe.due("table " + i, probe.table("t" + i), i);
        }
        Probe.due("a ninth", probe.table("x"), -1);
        Probe.due("a ninth of a name that is there", probe.table("t3"), -1);
        probe.reads(-4, "DROP TABLE x");
        probe.reads(3, "DROP TABLE t7");
    }

    private static void twoOfOneName() {
        Probe probe = new Probe();
        Probe.due("one", probe.table("abc"), 0);
        Probe.due("the same", probe.table("abc"), -2);
        Probe.due("a shorter one", probe.table("ab"), 1);
        Probe.due("a longer one", probe.table("abcd"), 2);
        Probe.due("the same again", probe.table("ab"), -2);
        Probe.due("reading makes no table", probe.read("CREATE TABLE n (a INT)"), 1);
        Probe.due("so that it can be made", probe.table("n"), 3);
        Probe.due("reading drops none", probe.read("DROP TABLE n"), 3);
        Probe.due("so that it is there", probe.table("n"), -2);
    }
}
