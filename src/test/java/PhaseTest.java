/** Promises 7 to 12 and 15: what each call does, and refuses, in each phase. */
public final class PhaseTest {
    private static final int[] WRONG_COUNTS = {-1, 9, -8, 16, 256, Integer.MIN_VALUE, Integer.MAX_VALUE};

    public static void main(String[] args) {
        for (Situation s : Situation.ALL) {
            every(s);
        }
        Check.end();
    }

    private static void every(Situation s) {
        String where = " in " + s;
        Check.same("15: phase" + where, s.make().phase(), s.phase());
        start(where, s);
        aside(where, s);
        text(where, s);
        seal(where, s);
        open(where, s);
        tag(where, s);
        length(where, s);
    }

    private static void start(String where, Situation s) {
        for (int newOpens = 0; newOpens < 2; newOpens++) {
            SealedStream x = s.make();
            x.start(newOpens == 1, 5, 6);
            Check.same("7: phase after start" + where, x.phase(), SealedStream.ASIDE);
            Check.same("7: length after start" + where, x.length(), 0);
            Check.same("7: aside after start" + where, x.aside(9, 1), 1);
            Bytes.unseen("7: after start" + where, x);
            if (newOpens == 1) {
                Check.state("7: seal after start" + where, x::seal);
            } else {
                Check.state("7: open after start" + where, () -> x.open(0, 0));
            }
        }
    }

    private static void aside(String where, Situation s) {
        SealedStream x = s.make();
        boolean takes = s.phase() == SealedStream.ASIDE;
        for (int n : WRONG_COUNTS) {
            if (takes) {
                Check.argument("8: aside of " + n + where, () -> x.aside(0, n));
            } else {
                Check.state("8: aside of " + n + where, () -> x.aside(0, n));
            }
        }
        for (int n = 0; n <= 8 && !takes; n++) {
            int count = n;
            Check.state("8: aside of " + n + where, () -> x.aside(0, count));
        }
        if (takes) {
            Check.same("8: aside of 0" + where, x.aside(-1, 0), 3);
            Check.same("8: aside of 8" + where, x.aside(-1, 8), 11);
        }
        Check.same("8: phase after aside" + where, x.phase(), s.phase());
    }

    private static void text(String where, Situation s) {
        SealedStream x = s.make();
        boolean takes = s.underWay();
        int length = x.length();
        for (int n : WRONG_COUNTS) {
            if (takes) {
                Check.argument("9: text of " + n + where, () -> x.text(0, n));
            } else {
                Check.state("9: text of " + n + where, () -> x.text(0, n));
            }
        }
        for (int n = 0; n <= 8 && !takes; n++) {
            int count = n;
            Check.state("9: text of " + n + where, () -> x.text(0, count));
        }
        Check.same("9: phase after a text refused" + where, x.phase(), s.phase());
        Check.same("9: length after a text refused" + where, x.length(), length);
        if (takes) {
            Check.same("9: text of 0" + where, x.text(-1, 0), 0);
            Check.same("9: phase after a text of 0" + where, x.phase(), SealedStream.TEXT);
            Check.same("9: length after a text of 0" + where, x.length(), length);
            Check.state("8: aside after a text of 0" + where, () -> x.aside(0, 0));
            x.text(0, 8);
            Check.same("9: length after a text of 8" + where, x.length(), length + 8);
            Check.same("9: phase after a text of 8" + where, x.phase(), SealedStream.TEXT);
        }
    }

    private static void seal(String where, Situation s) {
        SealedStream x = s.make();
        boolean ends = s.beingSealed();
        if (ends) {
            Check.same("10: seal" + where, x.seal(), s.phase() == SealedStream.ASIDE ? 0 : 5);
            Check.same("10: phase after seal" + where, x.phase(), SealedStream.SEALED);
        } else {
            Check.state("10: seal" + where, x::seal);
            Check.same("10: phase after a seal refused" + where, x.phase(), s.phase());
        }
        Check.state("10: seal again" + where, x::seal);
    }

    private static void open(String where, Situation s) {
        SealedStream x = s.make();
        boolean ends = s.beingOpened();
        if (ends) {
            Check.same("11: open" + where, x.open(0, 0), false);
            Check.same("11: phase after open" + where, x.phase(), SealedStream.REFUSED);
        } else {
            Check.state("11: open" + where, () -> x.open(0, 0));
            Check.same("11: phase after an open refused" + where, x.phase(), s.phase());
        }
        Check.state("11: open again" + where, () -> x.open(0, 0));
    }

    private static void tag(String where, Situation s) {
        SealedStream x = s.make();
        if (s.phase() == SealedStream.SEALED) {
            byte[] due = Situation.due();
            Check.same("12: tag, HIGH" + where, x.tag(false), Reference.tagHigh(due));
            Check.same("12: tag, LOW" + where, x.tag(true), Reference.tagLow(due));
            Check.same("12: tag, HIGH, again" + where, x.tag(false), Reference.tagHigh(due));
        } else {
            Check.state("12: tag, HIGH" + where, () -> x.tag(false));
            Check.state("12: tag, LOW" + where, () -> x.tag(true));
        }
        Check.same("12: phase after tag" + where, x.phase(), s.phase());
    }

    private static void length(String where, Situation s) {
        SealedStream x = s.make();
        boolean empty = s.phase() == SealedStream.NONE || s.phase() == SealedStream.ASIDE;
        Check.same("13: length" + where, x.length(), empty ? 0 : 5);
        boolean shown = !empty && (!s.opens() || s.phase() == SealedStream.OPENED);
        for (int i = 0; i < 5; i++) {
            Check.that("14: at(" + i + ")" + where + " answered " + x.at(i), x.at(i) >= 0 == shown);
        }
        if (s.phase() == SealedStream.OPENED) {
            Bytes.seen("14: at" + where, x, new byte[] {1, 2, 3, 4, 5});
        }
    }
}
