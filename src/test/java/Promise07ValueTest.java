/** Promise 7: value tells a number, or the size of a text. */
public final class Promise07ValueTest {
    public static void main(String[] args) {
        Probe probe = Probe.withTables();
        probe.read("SELECT 0, 7, 999999999999999999, 000000000000000012, 2147483648, 4294967296 FROM t");
        long[] numbers = {0, 7, 999999999999999999L, 12, 2147483648L, 4294967296L};
        for (int k = 0; k < numbers.length; k++) {
            Probe.due("number " + k, probe.reader.value(k), numbers[k]);
        }
        probe.read("SELECT '', 'x', '''', 'it''s', '1234567890123456789012345678901' FROM t");
        long[] sizes = {0, 1, 1, 4, 31};
        for (int k = 0; k < sizes.length; k++) {
            Probe.due("size " + k, probe.reader.value(k), sizes[k]);
        }
        probe.read("PREPARE p AS SELECT a, TRUE, NULL, $5, -3, 4 + 5, COUNT(9) FROM t GROUP BY a");
        long[] others = {0, 0, 0, 0, 3, 0, 4, 5, 0, 9, 0, 0};
        for (int k = 0; k < others.length; k++) {
            Probe.due("other " + k, probe.reader.value(k), others[k]);
        }
        for (int k : new int[] {-1, 12, 200, Integer.MIN_VALUE, Integer.MAX_VALUE}) {
            Probe.due("no node " + k, probe.reader.value(k), 0);
        }
        probe.read("SELECT 123456789012345678 IN (1, 2) FROM t");
        Probe.due("anew", probe.reader.value(3), 123456789012345678L);
        probe.type("SELECT 77");
        Probe.due("typing changes nothing", probe.reader.value(0), 123456789012345678L);
        probe.reader.table();
        Probe.due("nor does table", probe.reader.value(0), 123456789012345678L);
        probe.read("SELECT 5");
        Probe.due("behind an error", probe.reader.value(0), 0);
        Probe.finish("Promise 7");
    }
}
