/** Makes a catalog of one table, reads three statements over it and prints what the reader tells. */
public final class Example {
    public static void main(String[] args) {
        SqlReader reader = new SqlReader();

        type(reader, "t");
        int t = reader.table();
        type(reader, "a");
        reader.column(t, 1);
        type(reader, "b");
        reader.column(t, 2);

        type(reader, "SELECT a + 12, 'it''s' FROM t WHERE b = 'x' LIMIT 5");
        System.out.println("read() " + reader.read());
        System.out.println("nodes " + reader.count(0) + ", items " + reader.count(1)
            + ", limit " + reader.count(12) + ", WHERE is node " + reader.count(13));
        for (int k = 0; k < reader.count(0); k++) {
            System.out.println("node " + k + ": kind " + reader.node(k, 0)
                + ", operands " + reader.node(k, 1) + " and " + reader.node(k, 2)
                + ", type " + reader.node(k, 3) + ", value " + reader.value(k));
        }
        int item = reader.list(0, 1);
        System.out.println("item 1 is node " + item + ": " + text(reader, item));

        type(reader, "CREATE TABLE new (x INT NOT NULL)");
        System.out.println("read() " + reader.read());
        System.out.println("table " + name(reader, -1) + ", column " + name(reader, 0)
            + " of type " + reader.list(7, 0));

        type(reader, "SELECT z FROM t");
        System.out.println("read() " + reader.read());
    }

    private static void type(SqlReader reader, String text) {
        for (int i = 0; i < text.length(); i++) {
            reader.type(text.charAt(i), 1);
        }
    }

    private static String text(SqlReader reader, int k) {
        StringBuilder text = new StringBuilder();
        for (int i = 0; i < reader.value(k); i++) {
            text.append((char) reader.letter(k, i));
        }
        return text.toString();
    }

    private static String name(SqlReader reader, int k) {
        StringBuilder name = new StringBuilder();
        for (int i = 0; reader.name(k, i) >= 0; i++) {
            name.append((char) reader.name(k, i));
        }
        return name.toString();
    }
}
