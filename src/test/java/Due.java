/** What the tests of the project share: telling a NET as a text, and comparing answers with what is due. */
final class Due {
    static final int NONE = -1;
    static final int NOTHING = -1000000;

    private static int wrong = 0;
    private static int seen = 0;
    private static String about = "";

    private Due() {
    }

    static void about(String what) {
        about = what;
    }

    static void is(String call, long got, long want) {
        seen++;
        if (got != want) {
            wrong++;
            if (wrong <= 40) {
                System.out.println(about + ": " + call + " answered " + got + ", due is " + want);
            }
        }
    }

    static int seen() {
        return seen;
    }

    static void holds(String what, boolean is) {
        is(what, is ? 1 : 0, 1);
    }

    /** Feeds a text, twenty bytes a call, and cuts what pads it. */
    static void feed(AngleNet x, String text) {
        int had = x.count(4);
        for (int at = 0; at < text.length(); at += 20) {
            int[] words = new int[5];
            for (int i = 0; i < 20; i++) {
                int b = at + i < text.length() ? text.charAt(at + i) & 255 : 0;
                words[i / 4] = words[i / 4] << 8 | b;
            }
            x.feed(words[0], words[1], words[2], words[3], words[4]);
        }
        x.end(had + text.length());
    }

    /** Tells a text of its own, whatever the TAPE has. */
    static int tell(AngleNet x, String text) {
        x.end(0);
        feed(x, text);
        return x.net();
    }

    static AngleNet told(String text) {
        AngleNet x = new AngleNet();
        int lines = tell(x, text);
        if (lines < 0) {
            holds("a text without FAULT: " + text + " (" + x.fault(0) + " at " + x.fault(1) + ")", false);
        }
        return x;
    }

    /** As many POSTS and THIRDS as can be: a torus of nine POSTS less a THIRD, and the tenth POST; all are told all. */
    static String greatest() {
        StringBuilder text = new StringBuilder("posts 10;");
        for (int t = 0; t < 9; t++) {
            int right = t / 3 * 3 + (t + 1) % 3;
            int down = (t + 3) % 9;
            int both = (right + 3) % 9;
            text.append("third ").append(t).append(' ').append(right).append(' ').append(both).append(';');
            text.append("third ").append(t == 8 ? 9 : t).append(' ').append(both).append(' ').append(down).append(';');
        }
        // Each POST has 60 of each of its THIRDS: six, but for the three that lost one or got one.
        int[] angles = {360, 360, 360, 360, 360, 360, 360, 360, 300, 60};
        for (int p = 0; p < 10; p++) {
            text.append("angle ").append(p).append(' ').append(angles[p]).append(";circle ").append(p).append(" 0;");
            text.append("place ").append(p).append(' ').append(7 * p % 10).append(' ').append(p * p % 10).append(';');
        }
        return text.toString();
    }

    /** All that an IMAGE keeps, as far as calls tell it. */
    static String picture(AngleNet x) {
        StringBuilder seen = new StringBuilder();
        for (int what = 0; what <= 9; what++) {
            seen.append(what == 4 ? 0 : x.count(what)).append(' ');
        }
        for (int t = 0; t < x.count(1); t++) {
            for (int k = 0; k < 4; k++) {
                seen.append(x.third(t, k)).append(' ');
            }
        }
        for (int p = 0; p < x.count(0); p++) {
            for (int what = 0; what < 4; what++) {
                seen.append(x.post(p, what)).append(' ');
            }
            for (int q = 0; q < p; q++) {
                seen.append(x.cut(1 << p | 1 << q)).append(' ');
            }
        }
        return seen.toString();
    }

    /** What calls that change nothing answer about the NET; SLOT 0 is written. */
    static String answers(AngleNet x) {
        StringBuilder seen = new StringBuilder(picture(x));
        int posts = x.count(0);
        seen.append(x.over()).append(' ').append(x.can()).append(' ').append(x.bars(0)).append(' ').append(x.bars(1));
        seen.append(' ').append(x.illegal()).append(' ').append(x.inscribed()).append(' ').append(x.trees());
        seen.append(' ').append(x.whole()).append(' ');
        for (int what = 0; what < 7; what++) {
            seen.append(x.surface(what)).append(' ').append(x.hinders(what % 3)).append(' ');
        }
        for (int i = 0; i < 3 * x.count(1); i++) {
            seen.append(x.range(i / 3, i % 3, i % 2)).append(' ').append(x.fourth(i / 3, i % 2)).append(' ');
        }
        for (int p = 0; p < posts; p++) {
            seen.append(x.free(p, 0)).append(' ').append(x.free(p, 1)).append(' ').append(x.round(p, p / 2)).append(' ');
            seen.append(x.turn(p, (p + 1) % posts, (p + 2) % posts)).append(' ').append(x.height(0, posts - 1, p)).append(' ');
        }
        for (int i = 0; i < x.count(2); i++) {
            int p = x.sides(i) / 10;
            int q = x.sides(i) % 10;
            seen.append(x.may(p, q)).append(' ').append(x.through(0, posts - 1, p, q)).append(' ');
            fill(x, 0, 0, 10 * q + p);
            seen.append(x.judge(0)).append(' ');
        }
        long[] corners = new long[3 * x.count(1)];
        for (int i = 0; i < corners.length; i++) {
            corners[i] = x.third(i / 3, 3) / 3;
        }
        fill(x, 0, 3, corners);
        return seen.append(x.laid(0)).toString();
    }

    static void same(String what, String was, String is) {
        holds(what + ": was " + was + ", is " + is, was.equals(is));
    }

    /** Gives a SLOT a row of these numbers. */
    static void fill(AngleNet x, int slot, int width, long... numbers) {
        x.row(slot, width, numbers.length);
        for (int i = 0; i < numbers.length; i++) {
            x.write(slot, i, numbers[i]);
        }
    }

    /** Ends the test: exit code 1, if an answer was wrong. */
    static void end() {
        System.out.println(seen + " answers, " + wrong + " not as due");
        if (wrong != 0 || seen == 0) {
            System.exit(1);
        }
    }
}
