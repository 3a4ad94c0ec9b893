import java.util.NoSuchElementException;

/** Counts the answers that are not as due, and feeds texts to an object. */
final class Due {
    interface Call {
        long answer();
    }

    private int asked = 0;
    private int wrong = 0;

    void is(String call, long got, long want) {
        asked++;
        if (got != want) {
            wrong++;
            System.out.println(call + " answered " + got + ", due is " + want);
        }
    }

    void yes(String call, boolean got) {
        is(call, got ? 1 : 0, 1);
    }

    void no(String call, boolean got) {
        is(call, got ? 1 : 0, 0);
    }

    void noSuch(String call, Call asking) {
        asked++;
        try {
            long got = asking.answer();
            wrong++;
            System.out.println(call + " answered " + got + ", due is NoSuchElementException");
        } catch (NoSuchElementException e) {
            // as due
        }
    }

    void text(String call, OffTheLead x, int length, String want) {
        is(call + " length", length, want.length());
        StringBuilder got = new StringBuilder();
        for (int i = 0; x.byteAt(i) != OffTheLead.NONE; i++) {
            got.append((char) x.byteAt(i));
        }
        asked++;
        if (!got.toString().equals(want)) {
            wrong++;
            System.out.println(call + " wrote '" + got + "', due is '" + want + "'");
        }
    }

    void finish(String test) {
        System.out.println(test + ": " + asked + " answers, " + wrong + " not as due");
        if (wrong != 0) {
            System.exit(1);
        }
    }

    /** Puts a text behind the tape. */
    static void feed(OffTheLead x, String text) {
        int before = x.count(3);
        for (int i = 0; i < text.length(); i += 20) {
            int fed = x.feed(word(text, i), word(text, i + 4), word(text, i + 8),
                    word(text, i + 12), word(text, i + 16));
            if (fed == OffTheLead.NONE) {
                throw new IllegalArgumentException("too long for a tape");
            }
        }
        x.end(before + text.length());
    }

    private static int word(String text, int from) {
        int number = 0;
        for (int i = from; i < from + 4; i++) {
            number = number << 8 | (i < text.length() ? text.charAt(i) & 255 : 0);
        }
        return number;
    }

    static int park(OffTheLead x, String text) {
        feed(x, text);
        return x.park();
    }

    static int book(OffTheLead x, String text, int lives) {
        feed(x, text);
        return x.book(lives);
    }

    static int sentence(OffTheLead x, String text) {
        feed(x, text);
        return x.sentence();
    }

    static int tracks(OffTheLead x, int... pairs) {
        StringBuilder text = new StringBuilder();
        for (int b : pairs) {
            text.append((char) b);
        }
        feed(x, text.toString());
        return x.tracks();
    }

    static OffTheLead parkOf(String text) {
        OffTheLead x = new OffTheLead();
        if (park(x, text) < 0) {
            throw new IllegalArgumentException("at fault: " + text);
        }
        return x;
    }
}
