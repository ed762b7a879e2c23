import java.util.List;

/** A phase, of a message that is sealed or one that is opened. */
record Situation(int phase, boolean opens) {
    /** NONE, SEALED, OPENED and REFUSED have one kind each. */
    static final List<Situation> ALL = List.of(
            new Situation(SealedStream.NONE, false),
            new Situation(SealedStream.ASIDE, false),
            new Situation(SealedStream.ASIDE, true),
            new Situation(SealedStream.TEXT, false),
            new Situation(SealedStream.TEXT, true),
            new Situation(SealedStream.SEALED, false),
            new Situation(SealedStream.OPENED, true),
            new Situation(SealedStream.REFUSED, true));

    private static final long TEXT = 0x0504030201L;

    boolean underWay() {
        return phase == SealedStream.ASIDE || phase == SealedStream.TEXT;
    }

    boolean beingSealed() {
        return underWay() && !opens;
    }

    boolean beingOpened() {
        return underWay() && opens;
    }

    /**
     * A new object led there, under the key (1, 2) with the nonce (3, 4), the aside bytes 3 2 1
     * and, from TEXT on, five bytes of the text: 1 2 3 4 5 when it is sealed or OPENED.
     */
    SealedStream make() {
        if (phase == SealedStream.NONE) {
            SealedStream x = new SealedStream();
            x.key(1, 2);
            return x;
        }
        SealedStream x = Messages.started(opens);
        x.aside(0x010203, 3);
        switch (phase) {
            case SealedStream.TEXT -> x.text(TEXT, 5);
            case SealedStream.SEALED -> {
                x.text(TEXT, 5);
                x.seal();
            }
            case SealedStream.OPENED -> openTrue(x);
            case SealedStream.REFUSED -> {
                x.text(TEXT, 5);
                x.open(0, 0);
            }
            default -> { }
        }
        return x;
    }

    private static void openTrue(SealedStream x) {
        byte[] due = due();
        x.text(Bytes.piece(due, 0, 5, 0), 5);
        x.open(Reference.tagHigh(due), Reference.tagLow(due));
    }

    /** What the message of a situation that is sealed becomes, with its tag. */
    static byte[] due() {
        return Messages.due(new byte[] {3, 2, 1}, new byte[] {1, 2, 3, 4, 5});
    }

    @Override
    public String toString() {
        return "phase " + phase + (opens ? " of one opened" : " of one sealed");
    }
}
