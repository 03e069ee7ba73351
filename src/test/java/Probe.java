/** A reader with what tests need: typing of texts, the tables of the examples, checks that count. */
final class Probe {
    private static int wrong = 0;
    private static int asked = 0;

    final Counted reader = new Counted();

    /** t (a INT, b TEXT, c BOOL), u (a INT), v (d INT, e TEXT), w without columns. */
    static Probe withTables() {
        Probe probe = new Probe();
        probe.make("t", "a1 b2 c3");
        probe.make("u", "a1");
        probe.make("v", "d1 e2");
        probe.make("w", "");
        return probe;
    }

    /** Makes a table; each column is a name with the digit of its type behind it. */
    int make(String table, String columns) {
        type(table);
        int number = reader.table();
        for (String column : columns.split(" ")) {
            if (!column.isEmpty()) {
                int end = column.length() - 1;
                type(column.substring(0, end));
                reader.column(number, column.charAt(end) - '0');
            }
        }
        return number;
    }

    boolean type(String text) {
        boolean all = true;
        for (int i = 0; i < text.length(); i += 8) {
            int n = Math.min(8, text.length() - i);
            long v = 0;
            for (int j = 0; j < n; j++) {
                v = v << 8 | text.charAt(i + j) & 255;
            }
            all &= reader.type(v, n);
        }
        return all;
    }

    int read(String text) {
        type(text);
        return reader.read();
    }

    int table(String text) {
        type(text);
        return reader.table();
    }

    int column(String text, int table, int type) {
        type(text);
        return reader.column(table, type);
    }

    /** Each text is read by an object of its own over the tables of the examples. */
    static void each(int want, String... texts) {
        for (String text : texts) {
            withTables().reads(want, text);
        }
    }

    /** Reads each text; the error or kind of every one is due. */
    void reads(int want, String... texts) {
        for (String text : texts) {
            due("read " + text, read(text), want);
        }
    }

    /** Reads a text; its nodes are due as shown. */
    void shows(String text, String want) {
        due("nodes of " + text, nodesOf(text), want);
    }

    /** Reads a text, and answers all its nodes or the error. */
    String nodesOf(String text) {
        int kind = read(text);
        return kind < 0 ? "error " + kind : nodes();
    }

    /** All nodes, with a blank between: leaves as they are written, else kind(first,second). */
    String nodes() {
        StringBuilder all = new StringBuilder();
        for (int k = 0; k < reader.count(0); k++) {
            all.append(k == 0 ? "" : " ").append(shown(k));
        }
        return all.toString();
    }

    private String shown(int k) {
        int first = reader.node(k, 1);
        int second = reader.node(k, 2);
        switch (reader.node(k, 0)) {
            case 0: return "NULL";
            case 1: return "" + reader.value(k);
            case 2: return "'" + text(k) + "'";
            case 3: return first == 1 ? "TRUE" : "FALSE";
            case 4: return first + "." + second;
            case 28: return "$" + first;
            default:
                return reader.node(k, 0) + "(" + first + (second < 0 ? "" : "," + second) + ")";
        }
    }

    private String text(int k) {
        StringBuilder text = new StringBuilder();
        for (int i = 0; i < reader.value(k); i++) {
            text.append((char) reader.letter(k, i));
        }
        return text.toString();
    }

    /** A list's entries, as many as there are. */
    String list(int which, int size) {
        StringBuilder all = new StringBuilder();
        for (int i = 0; i < size; i++) {
            all.append(i == 0 ? "" : " ").append(reader.list(which, i));
        }
        return all.toString();
    }

    /** The types of all nodes. */
    String types() {
        StringBuilder all = new StringBuilder();
        for (int k = 0; k < reader.count(0); k++) {
            all.append(reader.node(k, 3));
        }
        return all.toString();
    }

    String name(int k) {
        StringBuilder name = new StringBuilder();
        for (int i = 0; reader.name(k, i) >= 0; i++) {
            name.append((char) reader.name(k, i));
        }
        return name.toString();
    }

    static int asked() {
        return asked;
    }

    static int wrong() {
        return wrong;
    }

    static void due(String what, boolean got, boolean want) {
        due(what, "" + got, "" + want);
    }

    static void due(String what, long got, long want) {
        due(what, "" + got, "" + want);
    }

    static void due(String what, String got, String want) {
        asked++;
        if (!got.equals(want)) {
            wrong++;
            System.out.println(what + ": answered " + got + ", due is " + want);
        }
    }

    /** Ends a test: with exit code 1 if an answer was not the one due. */
    static void finish(String test) {
        System.out.println(test + ": " + asked + " answers, " + wrong + " wrong");
        if (wrong > 0 || asked == 0) {
            System.exit(1);
        }
    }
}
