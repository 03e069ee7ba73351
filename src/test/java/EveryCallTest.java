import java.util.Random;

/**
 * Every call ends without an exception, whatever was typed: random rows of tokens, bytes and calls,
 * always the same ones, on two objects that must agree; and the nodes and lists hang together.
 */
public final class EveryCallTest {
    private static final String[] PIECES = ("CREATE TABLE NOT NULL UNIQUE INT TEXT BOOL INDEX ON DROP INSERT INTO "
        + "VALUES UPDATE SET WHERE DELETE FROM SELECT DISTINCT GROUP BY ORDER DESC LIMIT FOR SHARE BEGIN READ "
        + "COMMITTED REPEATABLE SERIALIZABLE COMMIT ROLLBACK SAVEPOINT TO RELEASE LOCK ACCESS ROW EXCLUSIVE PREPARE "
        + "AS EXECUTE VACUUM CHECKPOINT OR AND IS BETWEEN IN TRUE FALSE COUNT SUM MIN MAX a b c d t u v w 1 2 0 'x' "
        + "'' $1 $2 $9 ( ) , . ; * = <> < <= > >= + - / % || ( ) a t 1").split(" ");
    private static final String[] STARTS = {"SELECT a FROM t WHERE ", "SELECT ", "UPDATE t SET a = ",
        "INSERT INTO u VALUES (", "PREPARE p AS SELECT ", "PREPARE p AS UPDATE t SET b = ", "DELETE FROM t WHERE ",
        "EXECUTE p (", "CREATE TABLE x (a INT", "SELECT * FROM t, u WHERE t.a ", "INSERT INTO t SELECT ", ""};
    private static final String[] ENDS = {"", "", ")", " FROM t", " FROM t, v", " FROM t GROUP BY a", ";"};
    private static final int[] EDGES = {Integer.MIN_VALUE, -2, -1, 0, 1, 2, 7, 8, 9, 31, 32, 199, 200, 201,
        Integer.MAX_VALUE};

    public static void main(String[] args) {
        Random random = new Random(20261115);
        for (int run = 0; run < 6000; run++) {
            Probe one = Probe.withTables();
            Probe other = Probe.withTables();
            boolean noisy = run % 3 == 0;
            for (int i = 0; i < (noisy ? 1 : 4); i++) {
                String text = noisy ? noise(random) : statement(random);
                one.type(text);
                other.type(text);
                int answer = one.reader.read();
                Probe.due("read " + text, other.reader.read(), answer);
                Probe.due("range of " + text, answer >= -10 && answer != 0 && answer <= 19 ? 1 : 0, 1);
                hangsTogether(one.reader, text, answer);
            }
        }
        for (int run = 0; run < 300; run++) {
            anyCalls(random.nextLong());
        }
        Probe.finish("Every call");
    }

    private static String statement(Random random) {
        StringBuilder text = new StringBuilder(STARTS[random.nextInt(STARTS.length)]);
        int length = random.nextInt(12);
        for (int i = 0; i < length; i++) {
            boolean operand = i % 2 == 0 && random.nextInt(4) > 0;
            String piece = operand ? "abc".charAt(random.nextInt(3)) + "" : PIECES[random.nextInt(PIECES.length)];
            text.append(piece).append(random.nextInt(3) == 0 ? "" : " ");
        }
        return text.append(ENDS[random.nextInt(ENDS.length)]).toString();
    }

    private static String noise(Random random) {
        StringBuilder text = new StringBuilder();
        int length = random.nextInt(random.nextInt(4) == 0 ? 2100 : 40);
        int sort = random.nextInt(3);
        String signs = "('-NOT ,1a)";
        for (int i = 0; i < length; i++) {
            int letter = sort == 0 ? random.nextInt(256) : sort == 1 ? signs.charAt(random.nextInt(signs.length()))
                : 32 + random.nextInt(95);
            text.append((char) letter);
        }
        return text.toString();
    }

    private static void hangsTogether(Counted reader, String text, int answer) {
        boolean fine = reader.count(0) <= 200 && (answer > 0 || reader.count(0) == 0);
        for (int k = 0; k < reader.count(0); k++) {
            int kind = reader.node(k, 0);
            boolean works = kind >= 6 && kind <= 27;
            fine &= kind >= 0 && kind <= 28 && reader.node(k, 3) >= 0 && reader.node(k, 3) <= 3;
            fine &= !works || reader.node(k, 1) >= 0 && reader.node(k, 1) < k && reader.node(k, 2) < k;
            fine &= kind != 4 || reader.node(k, 1) >= 0 && reader.node(k, 1) < reader.count(4);
            fine &= kind != 28 || reader.node(k, 3) == reader.list(8, reader.node(k, 1) - 1);
            fine &= kind == 2 || reader.letter(k, 0) == -1;
        }
        for (int i = 0; i < reader.count(1); i++) {
            fine &= reader.list(0, i) >= 0 && reader.list(0, i) < reader.count(0);
        }
        for (int i = 0; i < reader.count(4); i++) {
            fine &= reader.list(3, i) >= 0 && reader.list(3, i) < 4;
        }
        Probe.due("what there is of " + text, fine ? 1 : 0, 1);
    }

    private static void anyCalls(long seed) {
        SqlReader one = new SqlReader();
        SqlReader other = new SqlReader();
        Random random = new Random(seed);
        for (int i = 0; i < 512; i++) {
            int call = random.nextInt(14);
            int x = edge(random);
            int y = edge(random);
            long v = random.nextInt(3) > 0 ? 'a' + random.nextInt(4) : random.nextLong();
            int n = random.nextInt(3) > 0 ? 1 : random.nextInt(11) - 1;
            Probe.due("call " + call + " of seed " + seed, call(other, call, x, y, v, n), call(one, call, x, y, v, n));
        }
    }

    private static int edge(Random random) {
        return random.nextInt(2) == 0 ? random.nextInt(4) : EDGES[random.nextInt(EDGES.length)];
    }

    private static long call(SqlReader reader, int call, int x, int y, long v, int n) {
        switch (call) {
            case 0: return reader.table();
            case 1:
            case 2: return reader.column(x, y);
            case 3: return reader.read();
            case 4: return reader.node(x, y);
            case 5: return reader.value(x);
            case 6: return reader.letter(x, y);
            case 7: return reader.count(x);
            case 8: return reader.list(x, y);
            case 9: return reader.name(x, y);
            default: return reader.type(v, n) ? 1 : 0;
        }
    }
}
