/**
 * A reader that counts its calls. What an object answers behind its 512th call is free, so a test
 * that asks more of one has failed.
 */
final class Counted {
    private static final int MOST = 512;

    private final SqlReader reader = new SqlReader();
    private int calls;

    boolean type(long v, int n) {
        countCall();
        return reader.type(v, n);
    }

    int table() {
        countCall();
        return reader.table();
    }

    int column(int table, int type) {
        countCall();
        return reader.column(table, type);
    }

    int read() {
        countCall();
        return reader.read();
    }

    int node(int k, int what) {
        countCall();
        return reader.node(k, what);
    }

    long value(int k) {
        countCall();
        return reader.value(k);
    }

    int letter(int k, int i) {
        countCall();
        return reader.letter(k, i);
    }

    int count(int what) {
        countCall();
        return reader.count(what);
    }

    int list(int which, int i) {
        countCall();
        return reader.list(which, i);
    }

    int name(int k, int i) {
        countCall();
        return reader.name(k, i);
    }

    private void countCall() {
        calls++;
        if (calls == MOST + 1) {
            Probe.due("calls of one object", calls, MOST);
        }
    }
}
