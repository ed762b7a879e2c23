/** Promises 7 to 12 and 15: what each call does, and refuses, in each phase. */
public final class PhaseTest {
    private static final int[] WRONG_COUNTS = {-1, 9, -8, 16, 256, Integer.MIN_VALUE, Integer.MAX_VALUE};

    public static void main(String[] args) {
        for (int phase = SealedStream.NONE; phase <= SealedStream.REFUSED; phase++) {
            for (int opens = 0; opens < 2; opens++) {
                if (exists(phase, opens == 1)) {
                    every(phase, opens == 1);
                }
            }
        }
        Check.end();
    }

    /** A new object led into a phase, with three aside bytes and five of the text behind it. */
    static SealedStream inPhase(int phase, boolean opens) {
        SealedStream x = new SealedStream();
        x.key(1, 2);
        if (phase == SealedStream.NONE) {
            return x;
        }
        x.start(opens, 3, 4);
        x.aside(0x010203, 3);
        if (phase == SealedStream.ASIDE) {
            return x;
        }
        if (phase == SealedStream.OPENED) {
            openTrue(x);
            return x;
        }
        x.text(0x0504030201L, 5);
        if (phase == SealedStream.SEALED) {
            x.seal();
        }
        if (phase == SealedStream.REFUSED) {
            x.open(0, 0);
        }
        return x;
    }

    private static void openTrue(SealedStream x) {
        SealedStream sealing = inPhase(SealedStream.SEALED, false);
        long sealed = 0;
        for (int i = 4; i >= 0; i--) {
            sealed = sealed << 8 | sealing.at(i);
        }
        x.text(sealed, 5);
        x.open(sealing.tag(false), sealing.tag(true));
    }

    private static boolean exists(int phase, boolean opens) {
        return switch (phase) {
            case SealedStream.ASIDE, SealedStream.TEXT -> true;
            case SealedStream.OPENED, SealedStream.REFUSED -> opens;
            default -> !opens;
        };
    }

    private static void every(int phase, boolean opens) {
        String where = " in phase " + phase + (opens ? " of one opened" : " of one sealed");
        Check.same("15: phase" + where, inPhase(phase, opens).phase(), phase);
        start(where, phase, opens);
        aside(where, phase, opens);
        text(where, phase, opens);
        seal(where, phase, opens);
        open(where, phase, opens);
        tag(where, phase, opens);
        length(where, phase, opens);
    }

    private static void start(String where, int phase, boolean opens) {
        for (int newOpens = 0; newOpens < 2; newOpens++) {
            SealedStream x = inPhase(phase, opens);
            x.start(newOpens == 1, 5, 6);
            Check.same("7: phase after start" + where, x.phase(), SealedStream.ASIDE);
            Check.same("7: length after start" + where, x.length(), 0);
            Check.same("7: aside after start" + where, x.aside(9, 1), 1);
            Bytes.unseen("7: after start" + where, x);
            if (newOpens == 1) {
                Check.state("7: seal after start" + where, x::seal);
            } else {
                Check.state("7: open after start" + where, () -> x.open(0, 0));
            }
        }
    }

    private static void aside(String where, int phase, boolean opens) {
        SealedStream x = inPhase(phase, opens);
        boolean takes = phase == SealedStream.ASIDE;
        for (int n : WRONG_COUNTS) {
            if (takes) {
                Check.argument("8: aside of " + n + where, () -> x.aside(0, n));
            } else {
                Check.state("8: aside of " + n + where, () -> x.aside(0, n));
            }
        }
        for (int n = 0; n <= 8 && !takes; n++) {
            int count = n;
            Check.state("8: aside of " + n + where, () -> x.aside(0, count));
        }
        if (takes) {
            Check.same("8: aside of 0" + where, x.aside(-1, 0), 3);
            Check.same("8: aside of 8" + where, x.aside(-1, 8), 11);
        }
        Check.same("8: phase after aside" + where, x.phase(), phase);
    }

    private static void text(String where, int phase, boolean opens) {
        SealedStream x = inPhase(phase, opens);
        boolean takes = phase == SealedStream.ASIDE || phase == SealedStream.TEXT;
        int length = x.length();
        for (int n : WRONG_COUNTS) {
            if (takes) {
                Check.argument("9: text of " + n + where, () -> x.text(0, n));
            } else {
                Check.state("9: text of " + n + where, () -> x.text(0, n));
            }
        }
        for (int n = 0; n <= 8 && !takes; n++) {
            int count = n;
            Check.state("9: text of " + n + where, () -> x.text(0, count));
        }
        Check.same("9: phase after a text refused" + where, x.phase(), phase);
        Check.same("9: length after a text refused" + where, x.length(), length);
        if (takes) {
            Check.same("9: text of 0" + where, x.text(-1, 0), 0);
            Check.same("9: phase after a text of 0" + where, x.phase(), SealedStream.TEXT);
            Check.same("9: length after a text of 0" + where, x.length(), length);
            Check.state("8: aside after a text of 0" + where, () -> x.aside(0, 0));
            x.text(0, 8);
            Check.same("9: length after a text of 8" + where, x.length(), length + 8);
            Check.same("9: phase after a text of 8" + where, x.phase(), SealedStream.TEXT);
        }
    }

    private static void seal(String where, int phase, boolean opens) {
        SealedStream x = inPhase(phase, opens);
        boolean ends = !opens && (phase == SealedStream.ASIDE || phase == SealedStream.TEXT);
        if (ends) {
            Check.same("10: seal" + where, x.seal(), phase == SealedStream.ASIDE ? 0 : 5);
            Check.same("10: phase after seal" + where, x.phase(), SealedStream.SEALED);
        } else {
            Check.state("10: seal" + where, x::seal);
            Check.same("10: phase after a seal refused" + where, x.phase(), phase);
        }
        Check.state("10: seal again" + where, x::seal);
    }

    private static void open(String where, int phase, boolean opens) {
        SealedStream x = inPhase(phase, opens);
        boolean ends = opens && (phase == SealedStream.ASIDE || phase == SealedStream.TEXT);
        if (ends) {
            Check.same("11: open" + where, x.open(0, 0), false);
            Check.same("11: phase after open" + where, x.phase(), SealedStream.REFUSED);
        } else {
            Check.state("11: open" + where, () -> x.open(0, 0));
            Check.same("11: phase after an open refused" + where, x.phase(), phase);
        }
        Check.state("11: open again" + where, () -> x.open(0, 0));
    }

    private static void tag(String where, int phase, boolean opens) {
        SealedStream x = inPhase(phase, opens);
        if (phase == SealedStream.SEALED) {
            byte[] due = Reference.seal(Bytes.ofBlock(1, 2), Bytes.ofNonce(3, 4), new byte[] {3, 2, 1}, new byte[] {1, 2, 3, 4, 5});
            Check.same("12: tag, HIGH" + where, x.tag(false), Reference.tagHigh(due));
            Check.same("12: tag, LOW" + where, x.tag(true), Reference.tagLow(due));
            Check.same("12: tag, HIGH, again" + where, x.tag(false), Reference.tagHigh(due));
        } else {
            Check.state("12: tag, HIGH" + where, () -> x.tag(false));
            Check.state("12: tag, LOW" + where, () -> x.tag(true));
        }
        Check.same("12: phase after tag" + where, x.phase(), phase);
    }

    private static void length(String where, int phase, boolean opens) {
        SealedStream x = inPhase(phase, opens);
        boolean empty = phase == SealedStream.NONE || phase == SealedStream.ASIDE;
        Check.same("13: length" + where, x.length(), empty ? 0 : 5);
        boolean shown = !empty && (!opens || phase == SealedStream.OPENED);
        for (int i = 0; i < 5; i++) {
            Check.that("14: at(" + i + ")" + where + " answered " + x.at(i), x.at(i) >= 0 == shown);
        }
        if (phase == SealedStream.OPENED) {
            Bytes.seen("14: at" + where, x, new byte[] {1, 2, 3, 4, 5});
        }
    }
}
