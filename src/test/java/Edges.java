/** Tests of which each belongs to one sentence of the document, or to one part of it, by its words. */
final class Edges {
    /** Numbers that are too small or too large for every index. */
    static final int[] FAR = {Integer.MIN_VALUE, Integer.MIN_VALUE + 1, -65536, -257, -256, 256, 65536,
        Integer.MAX_VALUE - 1, Integer.MAX_VALUE};

    private final String part;
    private int sentences;
    private int broken;

    Edges(String part) {
        this.part = part;
    }

    void sentence(String words, Runnable test) {
        int asked = Probe.asked();
        int wrong = Probe.wrong();
        test.run();
        sentences++;
        if (Probe.asked() == asked) {
            Probe.due("answers asked for", 0, 1);
        }
        if (Probe.wrong() > wrong) {
            broken++;
            System.out.println("BROKEN: \"" + words + "\"");
        }
    }

    void finish() {
        Probe.finish(part + ", " + sentences + " sentences of which " + broken + " are broken");
    }
}
