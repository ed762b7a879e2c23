/** The boundary cases that the promises 10 to 15 name, a test for each, and refused calls of all. */
public final class EndEdgesTest {
    private static final int[] NO_PLACES = {-1, -2, 97, 256, Integer.MIN_VALUE, Integer.MAX_VALUE};

    public static void main(String[] args) {
        Check.test("10: Ends a message; the phase is SEALED: how many bytes its text has", EndEdgesTest::sealOfEveryLength);
        Check.test("10: IllegalStateException when none is", EndEdgesTest::sealWhenNoneIs);
        Check.test("11: the phase is OPENED if this is its tag", EndEdgesTest::openOfEveryLength);
        Check.test("11: else REFUSED", EndEdgesTest::openWithAWrongTag);
        Check.test("11: IllegalStateException when none is", EndEdgesTest::openWhenNoneIs);
        Check.test("12: The tag: HIGH, or LOW when second", EndEdgesTest::halvesOfTheTag);
        Check.test("12: IllegalStateException when the phase is not SEALED", EndEdgesTest::tagInAWrongPhase);
        Check.test("13: How many bytes the text has, of the latest message", EndEdgesTest::lengthOfTheLatest);
        Check.test("13: 0 if there was none since the key came", EndEdgesTest::lengthOfNone);
        Check.test("14: Byte i of the sealed text of a message that is being sealed", EndEdgesTest::atWhileBeingSealed);
        Check.test("14: or is SEALED", EndEdgesTest::atWhenSealed);
        Check.test("14: or of the text of one that is OPENED", EndEdgesTest::atWhenOpened);
        Check.test("14: Byte i, be it 0 or 255", EndEdgesTest::atOfEveryByte);
        Check.test("14: -1 when there is none", EndEdgesTest::atOfNone);
        Check.test("15: The phase", EndEdgesTest::phases);
        Check.test("A call that throws changes nothing", EndEdgesTest::refusedCallsChangeNothing);
        Check.test("A piece that is too long is refused whole", EndEdgesTest::refusedPiecesChangeNothing);
        Check.end();
    }

    private static void sealOfEveryLength() {
        for (int held = 0; held <= 96; held++) {
            SealedStream x = Messages.withText(held, false);
            Check.same(held + ": seal", x.seal(), held);
            Check.same(held + ": phase", x.phase(), SealedStream.SEALED);
        }
        SealedStream x = Messages.started(false);
        Bytes.giveAside(x, Messages.counted(48), 8);
        Check.same("aside bytes alone: seal", x.seal(), 0);
        Check.same("aside bytes alone: phase", x.phase(), SealedStream.SEALED);
    }

    private static void sealWhenNoneIs() {
        Check.state("a new object", new SealedStream()::seal);
        for (Situation s : Situation.ALL) {
            SealedStream x = s.make();
            if (s.beingSealed()) {
                x.seal();
            }
            int phase = x.phase();
            Check.state("" + s, x::seal);
            Check.same(s + ": phase", x.phase(), phase);
            x.key(1, 2);
            Check.state("a key came behind " + s, x::seal);
        }
    }

    private static void openOfEveryLength() {
        for (int held = 0; held <= 96; held++) {
            byte[] aside = Messages.counted(held / 2);
            byte[] due = Messages.due(aside, Messages.counted(held));
            SealedStream x = Messages.started(true);
            Bytes.giveAside(x, aside, 8);
            Messages.give(x, Reference.withoutTag(due));
            Check.same(held + ": open", x.open(Reference.tagHigh(due), Reference.tagLow(due)), true);
            Check.same(held + ": phase", x.phase(), SealedStream.OPENED);
        }
    }

    private static void openWithAWrongTag() {
        byte[] due = Situation.due();
        long high = Reference.tagHigh(due);
        long low = Reference.tagLow(due);
        refused("zeros", 0, 0);
        refused("HIGH alone right", high, ~low);
        refused("LOW alone right", ~high, low);
        refused("HIGH and LOW exchanged", low, high);
        refused("both changed alike", high ^ 1, low ^ 1);
        for (int bit = 0; bit < 64; bit++) {
            refused("bit " + bit + " of HIGH", high ^ 1L << bit, low);
            refused("bit " + bit + " of LOW", high, low ^ 1L << bit);
        }
    }

    /** Even the right tag comes too late then. */
    private static void refused(String what, long high, long low) {
        byte[] due = Situation.due();
        SealedStream x = new Situation(SealedStream.ASIDE, true).make();
        Messages.give(x, Reference.withoutTag(due));
        Check.same(what + ": open", x.open(high, low), false);
        Check.same(what + ": phase", x.phase(), SealedStream.REFUSED);
        Check.state(what + ": open again", () -> x.open(Reference.tagHigh(due), Reference.tagLow(due)));
        Check.same(what + ": phase then", x.phase(), SealedStream.REFUSED);
    }

    private static void openWhenNoneIs() {
        byte[] due = Situation.due();
        long high = Reference.tagHigh(due);
        long low = Reference.tagLow(due);
        Check.state("a new object", () -> new SealedStream().open(0, 0));
        for (Situation s : Situation.ALL) {
            SealedStream x = s.make();
            if (s.beingOpened()) {
                x.open(high, low);
            }
            int phase = x.phase();
            Check.state("" + s, () -> x.open(high, low));
            Check.same(s + ": phase", x.phase(), phase);
            x.key(1, 2);
            Check.state("a key came behind " + s, () -> x.open(high, low));
        }
    }

    private static void halvesOfTheTag() {
        for (int held = 0; held <= 96; held += 8) {
            byte[] due = Messages.due(new byte[0], Messages.counted(held));
            SealedStream x = Messages.withText(held, false);
            x.seal();
            Check.same("LOW", x.tag(true), Reference.tagLow(due));
            Check.same("HIGH", x.tag(false), Reference.tagHigh(due));
            Check.same("LOW again", x.tag(true), Reference.tagLow(due));
        }
    }

    private static void tagInAWrongPhase() {
        noTag("a new object", new SealedStream());
        for (Situation s : Situation.ALL) {
            SealedStream x = s.make();
            if (s.phase() != SealedStream.SEALED) {
                noTag("" + s, x);
            }
            x.start(false, 3, 4);
            noTag("the next one, behind " + s, x);
            x.seal();
            x.key(1, 2);
            noTag("a key came, behind " + s, x);
        }
    }

    private static void noTag(String what, SealedStream x) {
        int phase = x.phase();
        Check.state(what + ", HIGH", () -> x.tag(false));
        Check.state(what + ", LOW", () -> x.tag(true));
        Check.same(what + ": phase", x.phase(), phase);
    }

    private static void lengthOfTheLatest() {
        for (int held = 0; held <= 96; held++) {
            SealedStream sealing = Messages.withText(held, false);
            Check.same("being sealed", sealing.length(), held);
            sealing.seal();
            Check.same("SEALED", sealing.length(), held);
            sealing.start(true, 3, 4);
            Check.same("the next one", sealing.length(), 0);
            SealedStream opening = Messages.withText(held, true);
            Check.same("being opened", opening.length(), held);
            opening.open(0, 0);
            Check.same("REFUSED", opening.length(), held);
            opening.start(false, 3, 4);
            Check.same("the next one", opening.length(), 0);
        }
        Check.same("OPENED", new Situation(SealedStream.OPENED, true).make().length(), 5);
        Check.same("aside bytes alone", new Situation(SealedStream.ASIDE, false).make().length(), 0);
    }

    private static void lengthOfNone() {
        Check.same("a new object", new SealedStream().length(), 0);
        for (Situation s : Situation.ALL) {
            SealedStream x = s.make();
            x.key(-1, -1);
            Check.same("behind " + s, x.length(), 0);
        }
    }

    private static void atWhileBeingSealed() {
        byte[] text = Messages.counted(96);
        byte[] sealed = Reference.withoutTag(Messages.due(new byte[0], text));
        SealedStream x = Messages.started(false);
        Check.same("none yet", x.at(0), -1);
        for (int held = 1; held <= 96; held++) {
            x.text(Bytes.piece(text, held - 1, 1, -1), 1);
            Check.same("the first of " + held, x.at(0), sealed[0] & 255);
            Check.same("the last of " + held, x.at(held - 1), sealed[held - 1] & 255);
            Check.same("behind the last of " + held, x.at(held), -1);
        }
    }

    private static void atWhenSealed() {
        for (int held = 0; held <= 96; held++) {
            byte[] sealed = Reference.withoutTag(Messages.due(new byte[0], Messages.counted(held)));
            SealedStream x = Messages.withText(held, false);
            x.seal();
            Bytes.seen(held + " bytes", x, sealed);
        }
    }

    private static void atWhenOpened() {
        for (int held = 0; held <= 96; held++) {
            byte[] due = Messages.due(new byte[0], Messages.counted(held));
            SealedStream x = Messages.started(true);
            Messages.give(x, Reference.withoutTag(due));
            x.open(Reference.tagHigh(due), Reference.tagLow(due));
            Bytes.seen(held + " bytes", x, Messages.counted(held));
        }
    }

    private static void atOfEveryByte() {
        long mask = Messages.started(false).text(0, 8);
        for (int b = 0; b < 256; b++) {
            SealedStream x = Messages.started(false);
            x.text(mask ^ b * 0x0101010101010101L, 8);
            for (int i = 0; i < 8; i++) {
                Check.same("at(" + i + ")", x.at(i), b);
            }
        }
    }

    private static void atOfNone() {
        Bytes.unseen("a new object", new SealedStream());
        for (Situation s : Situation.ALL) {
            SealedStream x = s.make();
            boolean shown = !s.opens() || s.phase() == SealedStream.OPENED;
            for (int i = shown ? x.length() : 0; i <= 96; i++) {
                Check.same(s + ": at(" + i + ")", x.at(i), -1);
            }
            for (int i : NO_PLACES) {
                Check.same(s + ": at(" + i + ")", x.at(i), -1);
            }
            x.key(1, 2);
            Check.same("a key came behind " + s, x.at(0), -1);
        }
    }

    /** With the calls that are promised to change none in between. */
    private static void phases() {
        Check.same("a new object", new SealedStream().phase(), SealedStream.NONE);
        for (Situation s : Situation.ALL) {
            SealedStream x = s.make();
            Check.same("" + s, x.phase(), s.phase());
            x.word(0);
            x.encrypt(1, 2, true);
            x.decrypt(1, 2, true);
            x.product(1, 2, 3, 4, true);
            x.length();
            x.at(0);
            Check.same(s + ", later", x.phase(), s.phase());
        }
    }

    /** A message goes on, and ends, as if the calls that were refused had not been. */
    private static void refusedCallsChangeNothing() {
        for (Situation s : Situation.ALL) {
            SealedStream x = s.make();
            refusedCalls(x, s);
            Check.same(s + ": phase", x.phase(), s.phase());
            SealedStream calm = s.make();
            sameState("" + s, x, calm);
            if (s.beingSealed()) {
                Check.same(s + ": text", x.text(0x123456789abcdefL, 8), calm.text(0x123456789abcdefL, 8));
                Check.same(s + ": seal", x.seal(), calm.seal());
                sameState(s + ", SEALED", x, calm);
            }
            if (s.beingOpened()) {
                opens(s, x);
            }
        }
    }

    private static void refusedCalls(SealedStream x, Situation s) {
        for (int n : new int[] {-1, 9, Integer.MIN_VALUE, Integer.MAX_VALUE}) {
            Check.thrown("aside of " + n + " in " + s, s.phase() == SealedStream.ASIDE
                    ? IllegalArgumentException.class : IllegalStateException.class, () -> x.aside(-1, n));
            Check.thrown("text of " + n + " in " + s, s.underWay()
                    ? IllegalArgumentException.class : IllegalStateException.class, () -> x.text(-1, n));
        }
        if (s.phase() != SealedStream.ASIDE) {
            Check.state("aside in " + s, () -> x.aside(-1, 8));
        }
        if (!s.underWay()) {
            Check.state("text in " + s, () -> x.text(-1, 8));
        }
        if (!s.beingSealed()) {
            Check.state("seal in " + s, x::seal);
        }
        if (!s.beingOpened()) {
            Check.state("open in " + s, () -> x.open(0, 0));
        }
        if (s.phase() != SealedStream.SEALED) {
            Check.state("tag in " + s, () -> x.tag(false));
        }
        Check.index("word in " + s, () -> x.word(44));
    }

    private static void sameState(String what, SealedStream x, SealedStream calm) {
        Check.same(what + ": length", x.length(), calm.length());
        for (int i = -1; i <= 96; i++) {
            Check.same(what + ": at(" + i + ")", x.at(i), calm.at(i));
        }
        if (calm.phase() == SealedStream.SEALED) {
            Check.same(what + ": tag, HIGH", x.tag(false), calm.tag(false));
            Check.same(what + ": tag, LOW", x.tag(true), calm.tag(true));
        }
        for (int i = 0; i < 44; i++) {
            Check.same(what + ": word(" + i + ")", x.word(i), calm.word(i));
        }
    }

    private static void opens(Situation s, SealedStream x) {
        byte[] given = s.phase() == SealedStream.TEXT ? new byte[] {1, 2, 3, 4, 5} : new byte[0];
        // What was given as the sealed text is, sealed once more, the text: the mask works both ways.
        byte[] text = Reference.withoutTag(Messages.due(new byte[0], given));
        byte[] due = Messages.due(new byte[] {3, 2, 1}, text);
        Check.same(s + ": open", x.open(Reference.tagHigh(due), Reference.tagLow(due)), true);
        Bytes.seen(s + ", OPENED", x, text);
    }

    private static void refusedPiecesChangeNothing() {
        byte[] aside = Messages.counted(45);
        byte[] text = Messages.counted(93);
        byte[] due = Messages.due(aside, text);
        SealedStream x = Messages.started(false);
        Bytes.giveAside(x, aside, 8);
        Check.unsupported("aside of 4 behind 45", () -> x.aside(-1, 4));
        Check.unsupported("aside of 8 behind 45", () -> x.aside(-1, 8));
        Bytes.givePlain(x, text, Reference.withoutTag(due), 8);
        Check.unsupported("text of 4 behind 93", () -> x.text(-1, 4));
        Check.unsupported("text of 8 behind 93", () -> x.text(-1, 8));
        Bytes.seen("being sealed", x, Reference.withoutTag(due));
        Check.same("seal", x.seal(), 93);
        Check.same("tag, HIGH", x.tag(false), Reference.tagHigh(due));
        Check.same("tag, LOW", x.tag(true), Reference.tagLow(due));
        SealedStream y = Messages.started(true);
        Bytes.giveAside(y, aside, 8);
        Bytes.giveSealed(y, Reference.withoutTag(due), 8);
        Check.unsupported("sealed text of 4 behind 93", () -> y.text(-1, 4));
        Check.same("open", y.open(Reference.tagHigh(due), Reference.tagLow(due)), true);
        Bytes.seen("OPENED", y, text);
    }
}
