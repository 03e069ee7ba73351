/** Promise 2: type puts the lowest n bytes behind the text, the highest of them first. */
public final class Promise02TypeTest {
    public static void main(String[] args) {
        bytesAreInOrder();
        highBytesDoNotCount();
        wrongSizesAreRefused();
        textHasRoomFor2000();
        textIsTakenByTheCallsThatTakeIt();
        Probe.finish("Promise 2");
    }

    private static void bytesAreInOrder() {
        Probe probe = new Probe();
        Probe.due("type abc", probe.reader.type(0x616263L, 3) ? 1 : 0, 1);
        Probe.due("type d", probe.reader.type(0x64L, 1) ? 1 : 0, 1);
        Probe.due("table abcd", probe.reader.table(), 0);
        Probe.due("table abcd again", probe.table("abcd"), -2);
        for (int n = 1; n <= 8; n++) {
            String name = "zyxwvuts".substring(0, n);
            Probe one = new Probe();
            Probe.due("type " + n, one.type(name) ? 1 : 0, 1);
            Probe.due("table of " + n, one.reader.table(), 0);
            Probe.due("read of " + n, one.read("VACUUM " + name), 18);
        }
    }

    private static void highBytesDoNotCount() {
        Probe probe = new Probe();
        Probe.due("type", probe.reader.type(0xFF00112233445561L, 1) ? 1 : 0, 1);
        Probe.due("table a", probe.reader.table(), 0);
        Probe.due("table a again", probe.table("a"), -2);
        probe.reader.type(-1L, 8);
        Probe.due("bytes of 255 are no name", probe.reader.table(), -1);
    }

    private static void wrongSizesAreRefused() {
        Probe probe = new Probe();
        probe.type("a");
        for (int n : new int[] {0, -1, 9, 16, Integer.MIN_VALUE, Integer.MAX_VALUE}) {
            Probe.due("type of " + n, probe.reader.type(0x62L, n) ? 1 : 0, 0);
        }
        Probe.due("what was refused is not there", probe.reader.table(), 0);
        Probe.due("it is a", probe.table("a"), -2);
    }

    private static void textHasRoomFor2000() {
        Probe probe = Probe.withTables();
        String text = "SELECT a FROM t";
        Probe.due("1992 bytes", probe.type(" ".repeat(1992 - text.length()) + text) ? 1 : 0, 1);
        Probe.due("7 more", probe.type("       ") ? 1 : 0, 1);
        Probe.due("2 over", probe.reader.type(0x2020L, 2) ? 1 : 0, 0);
        Probe.due("8 over", probe.reader.type(0x2020L, 8) ? 1 : 0, 0);
        Probe.due("1 to the end", probe.reader.type(0x3BL, 1) ? 1 : 0, 1);
        Probe.due("1 over", probe.reader.type(0x20L, 1) ? 1 : 0, 0);
        Probe.due("all of it is read", probe.reader.read(), 8);
        Probe.due("then there is room", probe.reader.type(0x20L, 1) ? 1 : 0, 1);
    }

    private static void textIsTakenByTheCallsThatTakeIt() {
        Probe probe = Probe.withTables();
        probe.type("A");
        probe.reader.table();
        Probe.due("table took it", probe.table("x"), 4);
        probe.type("A");
        probe.reader.column(0, 1);
        Probe.due("column took it", probe.column("d", 0, 1), 3);
        probe.type("d");
        probe.reader.column(99, 1);
        Probe.due("a refused column took it", probe.column("e", 0, 1), 4);
        probe.type("COMMIT");
        probe.reader.read();
        Probe.due("read took it", probe.read("COMMIT"), 10);
        probe.type("COMM");
        probe.reader.node(0, 0);
        probe.reader.count(0);
        probe.reader.list(0, 0);
        probe.reader.name(0, 0);
        probe.reader.value(0);
        probe.reader.letter(0, 0);
        Probe.due("the others did not", probe.read("IT"), 10);
    }
}
