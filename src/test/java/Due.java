/** What the tests of the project share: telling a NET as a text, and comparing answers with what is due. */
final class Due {
    static final int NONE = -1;
    static final int NOTHING = -1000000;

    private static int wrong = 0;
    private static int seen = 0;
    private static String about = "";

    private Due() {
    }

    static void about(String what) {
        about = what;
    }

    static void is(String call, long got, long want) {
        seen++;
        if (got != want) {
            wrong++;
            if (wrong <= 40) {
                System.out.println(about + ": " + call + " answered " + got + ", due is " + want);
            }
        }
    }

    static int seen() {
        return seen;
    }

    static void holds(String what, boolean is) {
        is(what, is ? 1 : 0, 1);
    }

    /** Feeds a text, twenty bytes a call, and cuts what pads it. */
    static void feed(AngleNet x, String text) {
        int had = x.count(4);
        for (int at = 0; at < text.length(); at += 20) {
            int[] words = new int[5];
            for (int i = 0; i < 20; i++) {
                int b = at + i < text.length() ? text.charAt(at + i) & 255 : 0;
                words[i / 4] = words[i / 4] << 8 | b;
            }
            x.feed(words[0], words[1], words[2], words[3], words[4]);
        }
        x.end(had + text.length());
    }

    /** Tells a text of its own, whatever the TAPE has. */
    static int tell(AngleNet x, String text) {
        x.end(0);
        feed(x, text);
        return x.net();
    }

    static AngleNet told(String text) {
        AngleNet x = new AngleNet();
        int lines = tell(x, text);
        if (lines < 0) {
            holds("a text without FAULT: " + text + " (" + x.fault(0) + " at " + x.fault(1) + ")", false);
        }
        return x;
    }

    /** All that an IMAGE keeps, as far as calls tell it. */
    static String picture(AngleNet x) {
        StringBuilder seen = new StringBuilder();
        for (int what = 0; what <= 9; what++) {
            seen.append(what == 4 ? 0 : x.count(what)).append(' ');
        }
        for (int t = 0; t < x.count(1); t++) {
            for (int k = 0; k < 4; k++) {
                seen.append(x.third(t, k)).append(' ');
            }
        }
        for (int p = 0; p < x.count(0); p++) {
            for (int what = 0; what < 4; what++) {
                seen.append(x.post(p, what)).append(' ');
            }
            for (int q = 0; q < p; q++) {
                seen.append(x.cut(1 << p | 1 << q)).append(' ');
            }
        }
        return seen.toString();
    }

    static void same(String what, String was, String is) {
        holds(what + ": was " + was + ", is " + is, was.equals(is));
    }

    /** Gives a SLOT a row of these numbers. */
    static void fill(AngleNet x, int slot, int width, long... numbers) {
        x.row(slot, width, numbers.length);
        for (int i = 0; i < numbers.length; i++) {
            x.write(slot, i, numbers[i]);
        }
    }

    /** Ends the test: exit code 1, if an answer was wrong. */
    static void end() {
        System.out.println(seen + " answers, " + wrong + " not as due");
        if (wrong != 0 || seen == 0) {
            System.exit(1);
        }
    }
}
