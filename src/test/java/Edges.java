/**
 * What the tests of boundary cases share. Each of them is named by the promise or the section of the
 * terms, and by the words of the sentence that tells the boundary.
 */
abstract class Edges {
    /** A kite for any wind and a spool of 100 metres. */
    static final String READY = " kite(0,12,1,7)=0 spool(100)=0 ";

    private final Checks c;

    Edges(Checks checks) {
        c = checks;
    }

    abstract void run();

    final void edge(String sentence, String... script) {
        c.test(sentence, () -> Script.check(c, String.join(" ", script)));
    }
}
