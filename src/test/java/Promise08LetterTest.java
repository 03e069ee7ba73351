/** Promise 8: letter tells a byte of a text. */
public final class Promise08LetterTest {
    public static void main(String[] args) {
        Probe probe = Probe.withTables();
        probe.read("SELECT 'it''s', '', '''''x''', 7, a FROM t");
        letters(probe, 0, "it's");
        letters(probe, 1, "");
        letters(probe, 2, "''x'");
        letters(probe, 3, "");
        letters(probe, 4, "");
        for (int k : new int[] {-1, 5, 200, Integer.MIN_VALUE, Integer.MAX_VALUE}) {
            letters(probe, k, "");
        }
        everyByte();
        theLongest();
        textsAnew();
        typingChangesNothing();
        Probe.finish("Promise 8");
    }

    private static void letters(Probe probe, int k, String want) {
        for (int i = 0; i < want.length(); i++) {
            Probe.due("letter " + k + " " + i, probe.reader.letter(k, i), want.charAt(i));
        }
        for (int i : new int[] {-1, want.length(), 31, 32, Integer.MIN_VALUE, Integer.MAX_VALUE}) {
            if (i != 31 || want.length() < 32) {
                Probe.due("letter " + k + " " + i, probe.reader.letter(k, i), -1);
            }
        }
    }

    private static void everyByte() {
        for (int start = 32; start <= 126; start += 31) {
            StringBuilder raw = new StringBuilder();
            StringBuilder written = new StringBuilder();
            for (int b = start; b < start + 31 && b <= 126; b++) {
                raw.append((char) b);
                written.append(b == '\'' ? "''" : "" + (char) b);
            }
            Probe probe = Probe.withTables();
            Probe.due("bytes from " + start, probe.read("SELECT '" + written + "' FROM t"), 8);
            letters(probe, 0, raw.toString());
        }
    }

    private static void theLongest() {
        Probe probe = Probe.withTables();
        probe.read("SELECT '" + "''".repeat(31) + "', 'abcdefghijklmnopqrstuvwxyz01234' FROM t");
        letters(probe, 0, "'".repeat(31));
        letters(probe, 1, "abcdefghijklmnopqrstuvwxyz01234");
    }

    private static void textsAnew() {
        Probe probe = Probe.withTables();
        probe.read("SELECT 'a''b' IN ('c', 'd''') FROM t");
        letters(probe, 0, "a'b");
        letters(probe, 1, "c");
        letters(probe, 3, "a'b");
        letters(probe, 4, "d'");
    }

    private static void typingChangesNothing() {
        Probe probe = Probe.withTables();
        probe.read("SELECT 'abc' FROM t");
        probe.type("xxxxxxxxxxxxxxxxxxxxxxxx");
        letters(probe, 0, "abc");
        probe.reader.table();
        letters(probe, 0, "abc");
        probe.column("n", 0, 1);
        letters(probe, 0, "abc");
        probe.read("SELECT 'abc'");
        letters(probe, 0, "");
    }
}
