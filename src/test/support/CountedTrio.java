/** Counts the calls of one object: the document promises nothing behind the 512th, so no test asks there. */
final class CountedTrio {
    static final int MOST_CALLS = 512;

    private final FramingTrio trio = new FramingTrio();
    private int calls = 0;

    int callsLeft() {
        return MOST_CALLS - calls;
    }

    private FramingTrio counted() {
        if (callsLeft() <= 0) {
            throw new IllegalStateException("the test makes more than " + MOST_CALLS + " calls on one object");
        }
        calls++;
        return trio;
    }

    boolean feed(int a, int b, int c, int d, int e) {
        return counted().feed(a, b, c, d, e);
    }

    boolean end(int n) {
        return counted().end(n);
    }

    boolean limit(int n) {
        return counted().limit(n);
    }

    int tell(int way) {
        return counted().tell(way);
    }

    int written() {
        return counted().written();
    }

    int writtenAt(int i) {
        return counted().writtenAt(i);
    }

    boolean spoil(int i, int mask) {
        return counted().spoil(i, mask);
    }

    int come(int way, int b) {
        return counted().come(way, b);
    }

    int all(int way) {
        return counted().all(way);
    }

    int raw(int way) {
        return counted().raw(way);
    }

    int latest(int way) {
        return counted().latest(way);
    }

    int latestAt(int way, int i) {
        return counted().latestAt(way, i);
    }

    int count(int way, int what) {
        return counted().count(way, what);
    }
}
