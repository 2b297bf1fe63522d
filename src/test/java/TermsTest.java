import java.math.BigInteger;

/** The document's terms, I to VII, sentence by sentence: each bound that they name, from both sides. */
public final class TermsTest {
    private static final int NONE = Due.NONE;
    private static final String TETRA = "posts 4;third 0 1 2;third 0 1 3;third 0 2 3;third 1 2 3;";
    private static final String OCTA = "posts 6;third 0 1 2;third 0 2 3;third 0 3 4;third 0 4 1;"
            + "third 5 1 2;third 5 2 3;third 5 3 4;third 5 4 1;";

    private TermsTest() {
    }

    public static void main(String[] args) throws Exception {
        Sentences.read();
        Sentences.section("Terms");
        lines();
        posts();
        thirds();
        tellings();
        tokens();
        faults();
        slots();
        surfaces();
        laid();
        bars();
        flipped();
        keen();
        inscribed();
        trees();
        draws();
        Due.is("sections", Sentences.close("Terms"), 1);
        Due.end();
    }

    // ---- I

    /** A text that has a FAULT where the sign ^ stands. */
    private static void fault(int kind, String marked) {
        String text = marked.replace("^", "");
        AngleNet x = new AngleNet();
        Due.is("net() of " + marked, Due.tell(x, text), -4);
        Due.is("fault(0) of " + marked, x.fault(0), kind);
        Due.is("fault(1) of " + marked, x.fault(1), marked.indexOf('^'));
    }

    private static AngleNet well(String text, int lines) {
        AngleNet x = new AngleNet();
        Due.is("net() of " + text, Due.tell(x, text), lines);
        Due.is("fault(0) of " + text, x.fault(0), 0);
        return x;
    }

    private static void lines() {
        Sentences.says("I. NET: {LINE ;}.");
        well("", 0);
        well("posts 3;", 1);
        well("posts 3;angle 0 1;angle 1 1;angle 2 1;", 4);
        fault(1, "posts 3^");
        fault(1, "posts 3;angle 0 1^");
        fault(1, "posts 3;^;");
        fault(1, "^;");

        Sentences.says("LINE: posts N | third P P P [sum N] | angle P N | corner N to N | weight P P N | place P X Y | circle P N.");
        String before = "posts 4;third 0 1 2;";
        String[] forms = {"third 0 1 3", "third 0 1 3 sum 9", "angle 0 9", "corner 1 to 9", "weight 0 1 9", "place 0 8 9", "circle 0 9"};
        for (String form : forms) {
            well(before + form + ";", 3);
            line(before, form.split(" "));
        }
        line("", new String[] {"posts", "4"});
        well("posts 4;corner 1 to 9;", 2);
        fault(1, "posts 4;^sum 9;");
        fault(1, "posts 4;^to 9;");
        words("", "posts", "");
        String[] firsts = {"third", "angle", "corner", "weight", "place", "circle"};
        for (String word : firsts) {
            words("posts 4;", word, "");
        }
        words("posts 4;corner 1 ", "to", " 9;");
        words("posts 4;third 0 1 2 ", "sum", " 9;");
    }

    /** A word with another letter, with one more, with one less, is none that can stand there. */
    private static void words(String before, String word, String behind) {
        for (int i = 0; i < word.length(); i++) {
            char other = word.charAt(i) == 'z' ? 'y' : (char) (word.charAt(i) + 1);
            fault(1, before + "^" + word.substring(0, i) + other + word.substring(i + 1) + behind);
        }
        fault(1, before + "^" + word + "x" + behind);
        fault(1, before + "^x" + word + behind);
        fault(1, before + "^" + word.substring(1) + behind);
        fault(1, before + "^" + word.substring(0, word.length() - 1) + behind);
    }

    /** A LINE that lacks a TOKEN, has another one there, or one more. */
    private static void line(String before, String[] tokens) {
        String text = before + tokens[0];
        for (int k = 1; k < tokens.length; k++) {
            boolean may = tokens[k].equals("sum");
            if (!may) {
                fault(1, text + " ^;");
                fault(1, text + "^");
            }
            fault(1, text + " ^x" + tokens[k] + ";");
            fault(1, text + " ^posts;");
            fault(1, text + " ^third;");
            if (!Character.isDigit(tokens[k].charAt(0))) {
                fault(1, text + " ^7;");
            }
            text += " " + tokens[k];
        }
        fault(1, text + "^");
        fault(1, text + " ^7;");
        fault(1, text + " ^to;");
    }

    private static void posts() {
        Sentences.says("posts is the first LINE and no other: 3 .. 10.");
        fault(2, "posts ^0;");
        fault(2, "posts ^2;");
        Due.is("3", well("posts 3;", 1).count(0), 3);
        Due.is("10", well("posts 10;", 1).count(0), 10);
        fault(2, "posts ^11;");
        fault(2, "posts ^4294967299;");
        fault(2, "posts ^18446744073709551619;");
        fault(1, "posts 3;^posts 3;");
        fault(1, "posts 3;angle 0 1;^posts 4;");
        String[] others = {"third 0 1 2", "angle 0 1", "corner 1 to 2", "weight 0 1 1", "place 0 0 0", "circle 0 0"};
        for (String other : others) {
            fault(1, "^" + other + ";posts 3;");
        }

        Sentences.says("P a POST 0 .. posts less 1;");
        for (int n = 3; n <= 10; n++) {
            posts(n);
        }
    }

    private static void posts(int n) {
        String p = "posts " + n + ";";
        int last = n - 1;
        well(p + "third 0 1 " + last + ";", 2);
        well(p + "third 0 " + last + " 1;", 2);
        well(p + "third " + last + " 1 0;", 2);
        fault(2, p + "third ^" + n + " 0 1;");
        fault(2, p + "third 0 ^" + n + " 1;");
        fault(2, p + "third 0 1 ^" + n + ";");
        well(p + "angle 0 9;angle " + last + " 9;", 3);
        fault(2, p + "angle ^" + n + " 9;");
        well(p + "place 0 9 9;place " + last + " 9 9;", 3);
        fault(2, p + "place ^" + n + " 9 9;");
        well(p + "circle 0 9;circle " + last + " 9;", 3);
        fault(2, p + "circle ^" + n + " 9;");
        String third = p + "third 0 1 " + last + ";";
        well(third + "weight 0 " + last + " 9;weight " + last + " 0 9;", 4);
        fault(2, third + "weight ^" + n + " 0 9;");
        fault(2, third + "weight 0 ^" + n + " 9;");
    }

    private static void thirds() {
        Sentences.says("of a third three unlike ones,");
        well("posts 3;third 2 0 1;", 2);
        fault(2, "posts 3;third 1 ^1 2;");
        fault(2, "posts 3;third 1 2 ^1;");
        fault(2, "posts 3;third 1 2 ^2;");
        fault(2, "posts 3;third 1 ^1 1;");

        Sentences.says("none of which pairs two thirds have already,");
        String two = "posts 6;third 0 1 2;third 3 1 0;";
        well(two + "third 0 2 4;", 4);
        String[] pairs = {"0 1 ^4", "1 0 ^4", "0 4 ^1", "1 4 ^0", "4 0 ^1", "4 1 ^0"};
        for (String pair : pairs) {
            fault(2, two + "third " + pair + ";");
        }
        well("posts 6;third 0 1 2;third 3 1 4;third 0 1 5;", 4);

        Sentences.says("and not all three of another one;");
        String[] again = {"0 1 ^2", "0 2 ^1", "1 0 ^2", "1 2 ^0", "2 0 ^1", "2 1 ^0"};
        for (String three : again) {
            fault(2, "posts 4;third 0 1 2;third " + three + ";");
            fault(2, "posts 4;third 0 1 2;third 0 1 3;third " + three + ";");
            fault(2, "posts 6;third 3 4 5;third 0 1 2 sum 9;third " + three + " sum 9;");
        }

        Sentences.says("sum 3 .. 540 (180 without).");
        fault(2, "posts 3;third 0 1 2 sum ^0;");
        fault(2, "posts 3;third 0 1 2 sum ^2;");
        Due.is("3", well("posts 3;third 0 1 2 sum 3;", 2).third(0, 3), 3);
        Due.is("540", well("posts 3;third 0 1 2 sum 540;", 2).third(0, 3), 540);
        fault(2, "posts 3;third 0 1 2 sum ^541;");
        Due.is("180", well("posts 3;third 0 1 2;", 2).third(0, 3), 180);
        Due.is("180 behind another", well("posts 4;third 0 1 2 sum 9;third 1 2 3;", 3).third(1, 3), 180);
    }

    private static void tellings() {
        Sentences.says("angle 1 .. 3,600 (a later one strikes);");
        fault(2, "posts 3;angle 0 ^0;");
        Due.is("1", well("posts 3;angle 0 1;", 2).post(0, 0), 1);
        Due.is("3,600", well("posts 3;angle 0 3600;", 2).post(0, 0), 3600);
        fault(2, "posts 3;angle 0 ^3601;");
        AngleNet later = well("posts 3;angle 0 5;angle 1 6;angle 0 7;", 4);
        Due.is("the later one", later.post(0, 0), 7);
        Due.is("another POST's", later.post(1, 0), 6);
        fault(2, "posts 3;angle 0 5;angle 0 ^0;");

        Sentences.says("corner: the least and the most that a CORNER may have, 0 .. 360 both, the first no more, once (1 to 360 without).");
        corner("corner 0 to 0;", 0, 0);
        corner("corner 0 to 360;", 0, 360);
        corner("corner 360 to 360;", 360, 360);
        corner("corner 7 to 7;", 7, 7);
        corner("corner 7 to 8;", 7, 8);
        corner("", 1, 360);
        fault(2, "posts 3;corner ^361 to 361;");
        fault(2, "posts 3;corner 0 to ^361;");
        fault(2, "posts 3;corner 8 to ^7;");
        fault(2, "posts 3;corner 1 to 2;^corner 1 to 2;");
        fault(2, "posts 3;corner 0 to 0;angle 0 1;^corner 0 to 0;");

        Sentences.says("weight 0 .. 360 of a SIDE that a third has (a later one strikes; 0 without).");
        String third = "posts 4;third 0 1 2;";
        Due.is("0 without", well(third, 2).cut(1), 0);
        Due.is("0", well(third + "weight 0 1 0;", 3).cut(1), 0);
        Due.is("360", well(third + "weight 0 1 360;", 3).cut(1), 360);
        fault(2, third + "weight 0 1 ^361;");
        AngleNet again = well(third + "weight 0 1 5;weight 0 2 70;weight 1 0 6;", 5);
        Due.is("the later one", again.cut(2), 6);
        Due.is("another SIDE's", again.cut(4), 70);
        Due.is("a later 0", well(third + "weight 0 1 5;weight 0 1 0;", 4).cut(1), 0);
        fault(2, third + "weight 0 ^3 1;");
        fault(2, "posts 4;weight 0 ^1 1;third 0 1 2;");

        Sentences.says("X, Y 0 .. 99 (a later one strikes);");
        place("place 0 0 0;", 0, 0);
        place("place 0 99 0;", 99, 0);
        place("place 0 0 99;", 0, 99);
        place("place 0 5 6;place 1 7 8;place 0 3 4;", 3, 4);
        place("", NONE, NONE);
        fault(2, "posts 3;place 0 ^100 0;");
        fault(2, "posts 3;place 0 0 ^100;");

        Sentences.says("circle 0 .. 9,999 (how much it bends; a later one strikes).");
        Due.is("none", well("posts 3;circle 1 4;", 2).post(0, 3), NONE);
        Due.is("0", well("posts 3;circle 0 0;", 2).post(0, 3), 0);
        Due.is("9,999", well("posts 3;circle 0 9999;", 2).post(0, 3), 9999);
        fault(2, "posts 3;circle 0 ^10000;");
        Due.is("the later one", well("posts 3;circle 0 5;circle 1 4;circle 0 6;", 4).post(0, 3), 6);

        Sentences.says("THIRDS 0 .. 17 are numbered as they stand.");
        AngleNet x = well(eighteen(), 19);
        Due.is("18", x.count(1), 18);
        Due.is("THIRD -1", x.third(-1, 0), -2);
        for (int t = 0; t < 18; t++) {
            Due.is("THIRD " + t, x.third(t, 3), 100 + t);
        }
        Due.is("THIRD 18", x.third(18, 0), -2);
    }

    private static void corner(String line, int least, int most) {
        AngleNet x = well("posts 3;" + line, line.isEmpty() ? 1 : 2);
        Due.is("the least of " + line, x.count(7), least);
        Due.is("the most of " + line, x.count(8), most);
    }

    private static void place(String lines, int due, int dueY) {
        AngleNet x = well("posts 3;" + lines, lines.split(";", -1).length);
        Due.is("X of " + lines, x.post(0, 1), due);
        Due.is("Y of " + lines, x.post(0, 2), dueY);
    }

    /** A torus of 18 thirds, the sum of each 100 and its number. */
    private static String eighteen() {
        StringBuilder text = new StringBuilder("posts 10;");
        for (int t = 0; t < 9; t++) {
            int right = t / 3 * 3 + (t + 1) % 3;
            int down = (t + 3) % 9;
            int both = (right + 3) % 9;
            text.append("third ").append(t).append(' ').append(right).append(' ').append(both);
            text.append(" sum ").append(100 + 2 * t).append(';');
            text.append("third ").append(t).append(' ').append(both).append(' ').append(down);
            text.append(" sum ").append(101 + 2 * t).append(';');
        }
        return text.toString();
    }

    private static void tokens() {
        Sentences.says("TOKENS, blanks (32, 10) aside, the longest: words (a .. z), numbers (digits), the sign ; .");
        for (int b = 0; b < 256; b++) {
            tokenOf(b);
        }
        well("posts3;third0 1 2sum9;angle0 1;corner1to2;", 4);
        well("  posts\n\n3 ;\nthird 0 \n1 2\n;  \n", 2);
        Due.is("the longest number", well("posts 10;", 1).count(0), 10);
        Due.is("zeros ahead", well("posts 0000000000000000000000003;", 1).count(0), 3);
        fault(2, "posts 3;angle 0 ^00000000000000003601;");
        fault(1, "^postsposts 3;");
        fault(1, "posts 3;^thirdthird 0 1 2;");
        fault(1, "^po sts 3;");
        fault(2, "posts ^1 0;");
    }

    /** What a byte is follows from what stands behind a number, and what behind a word. */
    private static void tokenOf(int b) {
        boolean blank = b == 32 || b == 10;
        boolean digit = b >= 48 && b <= 57;
        boolean letter = b >= 97 && b <= 122;
        char c = (char) b;
        AngleNet x = new AngleNet();
        int lines = Due.tell(x, "posts 3" + c + ";");
        Due.is("behind a number, byte " + b, lines, blank ? 1 : -4);
        if (!blank) {
            Due.is("fault(0), byte " + b, x.fault(0), digit ? 2 : 1);
            Due.is("fault(1), byte " + b, x.fault(1), digit ? 6 : c == ';' ? 8 : 7);
        }
        lines = Due.tell(x, "posts" + c + "3;");
        Due.is("behind a word, byte " + b, lines, blank || b == 48 ? 1 : -4);
        if (!blank && b != 48) {
            Due.is("fault(0), byte " + b, x.fault(0), digit ? 2 : 1);
            Due.is("fault(1), byte " + b, x.fault(1), letter ? 0 : 5);
        }
    }

    private static void faults() {
        Sentences.says("FAULTS, the first by its place (a TOKEN's first byte; the end's), of one place the least:");
        fault(2, "posts ^2;?");
        fault(1, "posts 3;^? angle 0 0;");
        fault(2, "posts 3;angle 0 ^0 angle");
        fault(1, "posts 3;angle 0 1;  ^anglers 0 1;");
        fault(2, "posts 3;angle 0 \n^12345;");
        fault(1, "posts 3^");
        fault(1, "posts 3 \n ^");
        fault(1, "  \n  posts^");
        fault(1, "posts 3;^99;");
        fault(1, "posts 3;corner 1 ^99 2;");
        fault(3, eighteen() + "^third");
        fault(1, eighteen() + "^thirds 0 1 2;");

        Sentences.says("1 a TOKEN that is none, or can't stand there (posts behind the first LINE, another word ahead of it).");
        fault(1, "posts 3;^#");
        fault(1, "posts 3;angle 0 ^-1;");
        fault(1, "posts 3;angle 0 1^.5;");
        fault(1, "posts 3;^Angle 0 1;");
        fault(1, "posts 3;^aNgle 0 1;");
        fault(1, "posts 3;^posts 3;");
        fault(1, "posts 3;third 0 1 2;^posts 4;");
        fault(1, "^third 0 1 2;posts 3;");
        fault(1, "^post 3;");
        fault(1, "^3 posts;");
        fault(1, "posts 3;^5;");
        fault(1, "posts 3 ^posts 3;");
        fault(1, "posts ^posts 3;");

        Sentences.says("2 a number out of its bounds, not as said (of a third told at its last POST; one told twice in it, of a weight two alike, at it; of a weight no SIDE, at its second POST); corner told already (at it).");
        fault(2, "posts 5;angle ^5 9;");
        fault(2, "posts 5;third 0 1 2;third 0 1 3;third 0 1 ^4;");
        fault(1, "posts 5;third 0 1 2;third 0 1 3;third 0 1 ^;");
        fault(2, "posts 5;third 0 1 2;third 0 1 3;third 0 1 ^5;");
        fault(2, "posts 5;third 0 1 2;third 2 1 ^0 sum 1;");
        fault(2, "posts 5;third 3 ^3 9;");
        fault(2, "posts 5;third 3 2 ^3 sum 1;");
        fault(2, "posts 5;third 0 1 2;weight 1 ^1 999;");
        fault(2, "posts 5;third 0 1 2;weight 1 ^3 999;");
        fault(2, "posts 5;third 0 1 2;weight ^7 7 999;");
        fault(1, "posts 5;third 0 1 2;weight 3 ^;");
        fault(2, "posts 5;corner 0 to 9;^corner 10 to 9;");
        fault(2, "posts 5;corner 0 to 9;^corner;");
        fault(2, "posts 5;corner 0 to 9;^corner");

        Sentences.says("3 a 19th third, at its word.");
        well(eighteen() + "angle 0 1;", 20);
        fault(3, eighteen() + "^third 0 1 9;");
        fault(3, eighteen() + "^third 99 x ?");
        fault(3, eighteen() + "angle 0 1; ^third 0 1 9;");
        fault(2, eighteen() + "angle 0 ^0;third 0 1 9;");
    }

    private static void slots() {
        Sentences.says("SLOTS 0 .. 3 have rows of numbers of 1, 2, 4 or 8 bytes (WIDTH 0 .. 3), at most 60, or nothing.");
        for (int slot = 0; slot < 4; slot++) {
            for (int width = 0; width < 4; width++) {
                AngleNet x = Due.told("posts 3;third 0 1 2 sum 3;corner 0 to 3;");
                Due.is("nothing", x.write(slot, 0, 1), -6);
                Due.is("60", x.row(slot, width, 60), 0);
                Due.is("61", x.row(slot, width, 61), -2);
                Due.is("the last", x.write(slot, 59, 1), 0);
                x.row(slot, width, 3);
                x.write(slot, 0, width == 3 ? 3 : 3 + (1L << (8 << width)));
                Due.is("so many bytes", x.laid(slot), 0);
                x.write(slot, 0, 3 + (1L << ((8 << width) - 1)));
                Due.is("the highest bit is one of them", x.laid(slot), 100);
            }
        }
        AngleNet x = new AngleNet();
        Due.is("SLOT 4", x.row(4, 0, 1), -2);
        Due.is("SLOT -1", x.row(-1, 0, 1), -2);
        Due.is("WIDTH 4", x.row(0, 4, 1), -2);
        Due.is("WIDTH -1", x.row(0, -1, 1), -2);
    }

    // ---- II

    private static void surfaces() {
        Sentences.says("II. SIDES: pairs of POSTS that some third has, numbered by the lesser POST, then the other;");
        AngleNet x = Due.told("posts 10;third 9 2 1;third 2 0 9;third 7 1 9;");
        int[] due = {2, 9, 12, 17, 19, 29, 79, NONE};
        for (int i = 0; i < due.length; i++) {
            Due.is("sides(" + i + ")", x.sides(i), due[i]);
        }
        Due.is("count(2)", x.count(2), 7);

        Sentences.says("RIM: a SIDE of one third alone.");
        Due.is("one third", Due.told("posts 4;third 0 1 2;").surface(4), 3);
        Due.is("two thirds that share one", Due.told("posts 4;third 0 1 2;third 3 2 0;").surface(4), 4);
        Due.is("all shared", Due.told(TETRA).surface(4), 0);

        Sentences.says("CORNERS 0, 1, 2 of a THIRD: its POSTS as they stand.");
        Due.is("CORNER 0", x.third(1, 0), 2);
        Due.is("CORNER 1", x.third(1, 1), 0);
        Due.is("CORNER 2", x.third(1, 2), 9);

        Sentences.says("EULER: POSTS that some THIRD has less SIDES and THIRDS.");
        Due.is("no THIRDS, ten POSTS", Due.told("posts 10;").surface(0), 0);
        Due.is("a THIRD of ten POSTS", Due.told("posts 10;third 7 8 9;").surface(0), 1);
        Due.is("a ball", Due.told(TETRA).surface(0), 2);
        Due.is("a ball of ten POSTS", Due.told(TETRA.replace("posts 4", "posts 10")).surface(0), 2);
        Due.is("below 0", Due.told("posts 9;third 0 1 2;third 0 3 4;third 1 3 5;third 2 4 5;third 0 5 6;third 6 1 4;third 2 3 6;")
                .surface(0), 7 - 21 + 7);

        Sentences.says("GOOD: each POST's THIRDS hang together by SIDES at it.");
        Due.is("no THIRDS", Due.told("posts 3;").surface(1), 1);
        Due.is("by a SIDE at it", Due.told("posts 5;third 0 1 2;third 0 2 3;").surface(1), 1);
        Due.is("by the POST alone", Due.told("posts 5;third 0 1 2;third 0 3 4;").surface(1), 0);
        Due.is("by SIDES elsewhere", Due.told("posts 5;third 0 1 2;third 0 3 4;third 1 2 3;third 2 3 4;").surface(1), 0);
        Due.is("in a row told out of order", Due.told("posts 6;third 0 1 2;third 0 4 5;third 0 3 4;third 0 2 3;").surface(1), 1);
        Due.is("two fans at the last POST", Due.told("posts 7;third 6 0 1;third 6 1 2;third 6 3 4;third 6 4 5;").surface(1), 0);

        Sentences.says("PARTS: of POSTS that THIRDS have, as SIDES hang them together.");
        Due.is("none", Due.told("posts 3;").surface(2), 0);
        Due.is("one, and POSTS that no THIRD has", Due.told("posts 9;third 6 7 8;").surface(2), 1);
        Due.is("by a POST alone", Due.told("posts 5;third 0 1 2;third 2 3 4;").surface(2), 1);
        Due.is("three", Due.told("posts 9;third 0 3 6;third 1 4 7;third 2 5 8;").surface(2), 3);
        Due.is("in a chain told out of order", Due.told("posts 9;third 0 1 2;third 6 7 8;third 4 5 6;third 2 3 4;").surface(2), 1);

        Sentences.says("TWO-SIDED: THIRDS can be turned so that two that share a SIDE go along it unlike ways.");
        Due.is("no THIRDS", Due.told("posts 3;").surface(3), 1);
        Due.is("told unlike ways", Due.told("posts 4;third 0 1 2;third 0 2 3;").surface(3), 1);
        Due.is("told alike", Due.told("posts 4;third 0 1 2;third 2 0 3;").surface(3), 1);
        Due.is("told any way", Due.told("posts 4;third 0 1 2;third 1 0 3;third 0 2 3;third 2 1 3;").surface(3), 1);
        String twist = "posts %d;third 0 1 2;third 1 2 3;third 2 3 4;third 3 4 0;third 4 0 1;";
        Due.is("a strip with a twist", Due.told(String.format(twist, 5)).surface(3), 0);
        Due.is("behind another PART", Due.told("posts 8;third 5 6 7;" + String.format(twist, 8).substring(8)).surface(3), 0);
        Due.is("three at a POST, not GOOD", Due.told("posts 7;third 0 1 2;third 0 3 4;third 0 5 6;").surface(3), 1);
    }

    // ---- III

    private static AngleNet rowOf(String text, long... numbers) {
        AngleNet x = Due.told(text);
        x.row(0, 3, numbers.length);
        for (int i = 0; i < numbers.length; i++) {
            x.write(0, i, numbers[i]);
        }
        return x;
    }

    private static void laid() {
        Sentences.says("III. LAID: whole numbers for all CORNERS, each from the least to the most, those of each THIRD its sum together, those at each POST that has an angle told that angle together.");
        String one = "posts 3;third 0 1 2 sum 30;corner 9 to 12;";
        Due.is("the least", rowOf(one, 9, 9, 12).laid(0), 0);
        Due.is("below the least", rowOf(one, 8, 10, 12).laid(0), 300);
        Due.is("above the most", rowOf(one, 9, 8, 13).laid(0), 301);
        Due.is("above the most alone", rowOf("posts 3;third 0 1 2 sum 30;corner 8 to 12;", 8, 9, 13).laid(0), 302);
        Due.is("its sum", rowOf(one, 10, 10, 11).laid(0), 100);
        Due.is("its sum", rowOf(one, 10, 10, 9).laid(0), 100);
        String angle = one + "angle 1 10;";
        Due.is("its angle", rowOf(angle, 10, 10, 10).laid(0), 0);
        Due.is("its angle", rowOf(angle, 9, 11, 10).laid(0), 201);
        Due.is("none told", rowOf(one, 9, 11, 10).laid(0), 0);
        Due.is("can be", Due.told(one).can(), 1);
        Due.is("can't: whole numbers alone", Due.told("posts 3;third 0 1 2 sum 29;corner 10 to 12;").can(), 0);
        Due.is("just the least", Due.told("posts 3;third 0 1 2 sum 27;corner 9 to 12;").can(), 1);
        Due.is("below the least", Due.told("posts 3;third 0 1 2 sum 26;corner 9 to 12;").can(), 0);
        Due.is("just the most", Due.told("posts 3;third 0 1 2 sum 36;corner 9 to 12;").can(), 1);
        Due.is("above the most", Due.told("posts 3;third 0 1 2 sum 37;corner 9 to 12;").can(), 0);
        Due.is("just the least, without corner", Due.told("posts 3;third 0 1 2 sum 3;").can(), 1);
        Due.is("the empty row", rowOf("posts 3;").laid(0), 0);
    }

    private static void bar(String text, int set, int way) {
        AngleNet x = Due.told(text);
        Due.is("bars(0) of " + text, x.bars(0), set);
        Due.is("bars(1) of " + text, x.bars(1), way);
        Due.is("can() of " + text, x.can(), way == NONE ? 1 : 0);
    }

    private static void bars() {
        Sentences.says("It BARS: a set of POSTS with told angles (none, too), either");
        bar("posts 3;third 0 1 2 sum 26;corner 9 to 12;", 0, 1);
        bar("posts 3;third 0 1 2 sum 37;corner 9 to 12;", 0, 2);
        bar("posts 3;", NONE, NONE);
        bar("posts 3;corner 360 to 360;", NONE, NONE);
        bar("posts 10;angle 9 1;", 1 << 9, 1);
        // The set of 0 and 1 is told in part alone: 0 by itself is well.
        bar("posts 3;third 0 1 2;angle 0 178;", NONE, NONE);
        bar("posts 3;third 0 1 2;angle 0 178;angle 1 2;", 3, 1);

        Sentences.says("(1) they ask for more than can be at them: their angles together are above, over all THIRDS, the greatest that each can have at them (most for each CORNER at them, its sum less the least for each other one, whichever is less);");
        // The most is less: 12 of one CORNER, though 30 less twice 5 were more.
        bar("posts 3;third 0 1 2 sum 30;corner 5 to 12;angle 0 12;", NONE, NONE);
        bar("posts 3;third 0 1 2 sum 30;corner 5 to 12;angle 0 13;", 1, 1);
        // The sum less the least of others is less: 30 less 18.
        bar("posts 3;third 0 1 2 sum 30;corner 9 to 20;angle 0 12;", NONE, NONE);
        bar("posts 3;third 0 1 2 sum 30;corner 9 to 20;angle 0 13;", 1, 1);
        // Two CORNERS of one THIRD: twice the most, or the sum less one least.
        bar("posts 3;third 0 1 2 sum 30;corner 5 to 12;angle 0 12;angle 2 12;", NONE, NONE);
        bar("posts 3;third 0 1 2 sum 30;corner 5 to 20;angle 0 12;angle 2 13;", NONE, NONE);
        bar("posts 3;third 0 1 2 sum 30;corner 5 to 20;angle 0 13;angle 2 13;", 5, 1);
        // Over all THIRDS.
        bar("posts 4;third 0 1 2 sum 30;third 0 2 3 sum 40;corner 5 to 12;angle 0 24;", 0, 2);
        bar("posts 4;third 0 1 2 sum 30;third 0 2 3 sum 30;corner 5 to 12;angle 0 24;", NONE, NONE);
        bar("posts 4;third 0 1 2 sum 30;third 0 2 3 sum 30;corner 5 to 12;angle 0 25;", 1, 1);

        Sentences.says("or (2) for less than must be: below, over all THIRDS, the least that each must have at them (least for each, its sum less most for each other one, whichever is more).");
        // The least is more: 9, though 30 less twice 12 is 6.
        bar("posts 3;third 0 1 2 sum 30;corner 9 to 12;angle 0 9;", NONE, NONE);
        bar("posts 3;third 0 1 2 sum 30;corner 9 to 12;angle 0 8;", 1, 2);
        // The sum less the most of others is more: 30 less 22.
        bar("posts 3;third 0 1 2 sum 30;corner 5 to 11;angle 0 8;", NONE, NONE);
        bar("posts 3;third 0 1 2 sum 30;corner 5 to 11;angle 0 7;", 1, 2);
        bar("posts 3;third 0 1 2 sum 30;corner 5 to 11;angle 0 9;angle 1 10;", NONE, NONE);
        bar("posts 3;third 0 1 2 sum 30;corner 5 to 11;angle 0 9;angle 1 9;", 3, 2);
        bar("posts 4;third 0 1 2 sum 30;third 0 2 3 sum 30;corner 5 to 11;angle 0 16;", NONE, NONE);
        bar("posts 4;third 0 1 2 sum 30;third 0 2 3 sum 30;corner 5 to 11;angle 0 15;", 1, 2);
    }

    // ---- IV

    private static void flipped() {
        Sentences.says("IV. By places: TURN of three: (x1 - x0) (y2 - y0) - (x2 - x0) (y1 - y0).");
        AngleNet t = Due.told("posts 5;place 0 3 7;place 1 11 8;place 2 5 20;place 3 99 0;place 4 0 99;");
        Due.is("turn(0, 1, 2)", t.turn(0, 1, 2), 8 * 13 - 2);
        Due.is("turn(1, 2, 0)", t.turn(1, 2, 0), 102);
        Due.is("turn(1, 0, 2)", t.turn(1, 0, 2), -102);
        AngleNet far = Due.told("posts 3;place 0 0 0;place 1 99 0;place 2 0 99;");
        Due.is("the greatest", far.turn(0, 1, 2), 9801);
        Due.is("the least", far.turn(0, 2, 1), -9801);

        Sentences.says("A SIDE of two THIRDS may be FLIPPED:");
        AngleNet two = Due.told("posts 4;third 0 1 2;third 0 2 3;");
        Due.is("of two", two.may(0, 2), 1);
        Due.is("of one", two.may(0, 1), 0);
        Due.is("of one", two.flip(0, 1), -5);

        Sentences.says("it and its THIRDS go, the two POSTS beside it become a SIDE, with a THIRD on each of its POSTS (in place of these, the one with the lesser number on the lesser POST; told by that POST, then the new SIDE's lesser and greater; both with the sum of 180),");
        AngleNet x = Due.told("posts 7;third 4 5 6 sum 20;third 6 2 5 sum 30;third 0 1 2 sum 40;third 5 1 2 sum 50;");
        Due.is("flip(5, 2)", x.flip(5, 2), 16);
        int[] due = {4, 5, 6, 20, 2, 1, 6, 180, 0, 1, 2, 40, 5, 1, 6, 180};
        for (int i = 0; i < due.length; i++) {
            Due.is("third(" + i / 4 + ", " + i % 4 + ")", x.third(i / 4, i % 4), due[i]);
        }
        Due.is("it goes", x.side(2, 5), 0);
        Due.is("the new SIDE", x.side(6, 1), 2);
        Due.is("those round it stay", x.side(5, 6), 2);
        Due.is("those round it stay", x.side(1, 2), 2);
        Due.is("how many", x.count(1), 4);
        Due.is("how many", x.count(2), 9);

        Sentences.says("if it is no SIDE yet.");
        AngleNet ball = Due.told(TETRA);
        Due.is("a SIDE already", ball.may(0, 1), 0);
        Due.is("a SIDE already", ball.flip(0, 1), -5);
        AngleNet rim = Due.told("posts 5;third 0 1 2;third 0 2 3;third 1 3 4;");
        Due.is("a SIDE of one third, elsewhere", rim.may(0, 2), 0);
    }

    private static String square(String second, int... places) {
        StringBuilder text = new StringBuilder("posts 4;third 0 1 2;" + second);
        for (int p = 0; 2 * p < places.length; p++) {
            text.append("place ").append(p).append(' ').append(places[2 * p]).append(' ').append(places[2 * p + 1]).append(';');
        }
        return text.toString();
    }

    private static void keen() {
        String second = "third 0 2 3;";
        Sentences.says("KEEN (of one that may be FLIPPED, all four with places):");
        Due.is("all four", Due.told(square(second, 0, 0, 9, 0, 9, 9, 0, 9)).may(0, 2), 3);
        for (int p = 0; p < 4; p++) {
            // The one that lacks its place would be KEEN with the others, if no place were one just below 0.
            StringBuilder three = new StringBuilder("posts 4;third 0 1 2;third 0 2 3;");
            for (int q = 1; q < 4; q++) {
                three.append("place ").append((p + q) % 4).append(q == 1 ? " 9 0;" : q == 2 ? " 9 9;" : " 0 9;");
            }
            Due.is("three", Due.told(three.toString()).may(0, 2), 1);
            three.append("place ").append(p).append(" 0 0;");
            Due.is("all four", Due.told(three.toString()).may(0, 2), 3);
        }
        AngleNet rim = Due.told(square(second, 0, 0, 9, 0, 9, 9, 0, 9));
        Due.is("a RIM", rim.may(0, 1), 0);
        // A SIDE 1 3 elsewhere: the square is as good, but it may not be FLIPPED.
        Due.is("may not be", Due.told(square(second + "third 1 3 4;", 0, 0, 9, 0, 9, 9, 0, 9).replace("posts 4", "posts 5"))
                .may(0, 2), 0);

        Sentences.says("with the SIDE's POSTS a, b (a the lesser), c beside it of the lesser THIRD, d of the other one, TURNS of (a, b, c), (b, a, d), (a, d, c), (b, c, d) are all above or all below 0.");
        Due.is("all below", Due.told(square(second, 0, 0, 9, 0, 9, 9, 0, 9)).may(0, 2), 3);
        Due.is("all above", Due.told(square(second, 0, 0, 0, 9, 9, 9, 9, 0)).may(0, 2), 3);
        Due.is("all above, one of 1", Due.told(square(second, 0, 0, 1, 2, 2, 3, 9, 0)).may(0, 2) & 2, 2);
        Due.is("all below, one of -1", Due.told(square(second, 0, 0, 2, 1, 3, 2, 0, 9)).may(0, 2) & 2, 2);
        Due.is("(a, b, c) is 0", Due.told(square(second, 0, 0, 5, 5, 9, 9, 0, 9)).may(0, 2), 1);
        Due.is("(b, a, d) is 0", Due.told(square(second, 0, 0, 9, 0, 9, 9, 5, 5)).may(0, 2), 1);
        Due.is("(a, d, c) is 0", Due.told(square(second, 5, 5, 10, 0, 20, 20, 0, 10)).may(0, 2), 1);
        Due.is("(b, c, d) is 0", Due.told(square(second, 0, 0, 10, 0, 5, 5, 0, 10)).may(0, 2), 1);
        Due.is("c and d on one hand", Due.told(square(second, 0, 0, 9, 0, 9, 9, 8, 0)).may(0, 2), 1);
        Due.is("a is pulled in", Due.told(square(second, 6, 6, 10, 0, 20, 20, 0, 10)).may(0, 2), 1);
        Due.is("b is pulled in", Due.told(square(second, 0, 0, 10, 0, 4, 4, 0, 10)).may(0, 2), 1);
        Due.is("all at one place", Due.told(square(second, 5, 5, 5, 5, 5, 5, 5, 5)).may(0, 2), 1);

        Sentences.says("ILLEGAL: a KEEN one of which d lies inside of the circle through a, b, c.");
        Due.is("on it", Due.told(square(second, 0, 0, 9, 0, 9, 9, 0, 9)).may(0, 2), 3);
        Due.is("inside", Due.told(square(second, 0, 0, 9, 0, 9, 9, 1, 9)).may(0, 2), 7);
        Due.is("inside, turned", Due.told(square(second, 0, 0, 0, 9, 9, 9, 9, 1)).may(0, 2), 7);
        Due.is("outside", Due.told(square(second, 1, 0, 10, 0, 10, 9, 0, 9)).may(0, 2), 3);
        Due.is("inside, but not KEEN", Due.told(square(second, 0, 0, 9, 0, 9, 9, 8, 1)).may(0, 2), 1);
    }

    // ---- V

    private static void inscribed() {
        Sentences.says("V. INSCRIBED by weights: GOOD, of one PART, EULER 2, no RIM;");
        Due.is("a ball", Due.told(TETRA).inscribed(), 2);
        // Two balls at two POSTS: EULER 2, one PART, no RIM.
        AngleNet bad = Due.told("posts 10;third 0 1 2;third 0 2 3;third 0 3 4;third 0 4 1;third 5 1 2;third 5 2 3;third 5 3 4;"
                + "third 5 4 1;third 0 6 7;third 0 7 8;third 0 8 9;third 0 9 6;third 5 6 7;third 5 7 8;third 5 8 9;third 5 9 6;");
        Due.is("EULER", bad.surface(0), 2);
        Due.is("PARTS", bad.surface(2), 1);
        Due.is("RIM", bad.surface(4), 0);
        Due.is("not GOOD", bad.inscribed(), 1);
        Due.is("two PARTS", Due.told("posts 8;third 0 1 2;third 0 1 3;third 0 2 3;third 1 2 3;"
                + "third 4 5 6;third 4 5 7;third 4 6 7;third 5 6 7;").inscribed(), 1);
        Due.is("two PARTS, EULER 2", Due.told("posts 6;third 0 1 2;third 3 4 5;").inscribed(), 1);
        Due.is("EULER 1", Due.told("posts 6;third 0 1 2;third 0 2 3;third 0 3 4;third 0 4 5;third 0 5 1;"
                + "third 1 2 4;third 2 3 5;third 3 4 1;third 4 5 2;third 5 1 3;").inscribed(), 1);
        Due.is("EULER 0", Due.told(eighteen()).inscribed(), 1);
        Due.is("a RIM", Due.told("posts 4;third 0 1 2;third 0 1 3;third 0 2 3;").inscribed(), 1);
        Due.is("no THIRDS", Due.told("posts 4;").inscribed(), 1);

        Sentences.says("each weight 1 .. 179;");
        Due.is("1 and 179", weighed(1, 179, 180).inscribed(), 2);
        Due.is("180", weighed(1, 179, 180).hinders(0), 3);
        Due.is("all well", weighed(2, 179, 179).inscribed(), 0);
        Due.is("1", weighed(1, 179, 179).hinders(0), NONE);
        Due.is("0", weighed(0, 179, 179).hinders(0), 1);
        Due.is("179", weighed(120, 120, 179).hinders(0), NONE);

        Sentences.says("at each POST 360 together;");
        Due.is("360", weighed(120, 120, 120).inscribed(), 0);
        Due.is("359", weighed(120, 120, 119).inscribed(), 3);
        Due.is("361", weighed(120, 120, 121).inscribed(), 3);
        for (int p = 0; p < 4; p++) {
            AngleNet less = weighed(120, 120, 120);
            less.weigh((p + 1) % 4, (p + 2) % 4, 119);
            Due.is("the first POST", less.hinders(1), Math.min((p + 1) % 4, (p + 2) % 4));
        }

        Sentences.says("and for each other set of POSTS (two or more, two or more others), weights of SIDES between it and the others above 360 together.");
        AngleNet x = Due.told(OCTA);
        weigh(x, 60, 1, 120, 2, 120, 12, 120, 34, 120, 35, 120, 45, 120);
        Due.is("just 360 is not above", x.cut(7), 360);
        Due.is("just 360 is not above", x.inscribed(), 4);
        Due.is("just 360 is not above", x.hinders(2), 7);
        weigh(x, 60, 1, 121, 2, 119, 12, 119, 23, 61, 25, 61, 34, 120, 35, 119, 45, 120);
        Due.is("362 is", x.cut(7), 362);
        Due.is("362 is", x.inscribed(), 0);
        // One POST and all others but one have just 360, and bar nothing.
        Due.is("one alone", weighed(120, 120, 120).cut(1), 360);
        Due.is("all but one", weighed(120, 120, 120).cut(7), 360);
        Due.is("one alone", weighed(120, 120, 120).hinders(2), NONE);
        Due.is("two of four", weighed(2, 179, 179).hinders(2), NONE);
        Due.is("two of four, 360", weighed(180, 90, 90).hinders(2), 3);
    }

    /** A tetrahedron; opposite SIDES weigh the same. */
    private static AngleNet weighed(int a, int b, int c) {
        return Due.told(TETRA + "weight 0 1 " + a + ";weight 2 3 " + a + ";weight 0 2 " + b + ";weight 1 3 " + b
                + ";weight 0 3 " + c + ";weight 1 2 " + c + ";");
    }

    /** All SIDES weigh so much, but those that are named, with their own. */
    private static void weigh(AngleNet x, int all, int... own) {
        for (int i = 0; i < x.count(2); i++) {
            x.weigh(x.sides(i) / 10, x.sides(i) % 10, all);
        }
        for (int i = 0; i < own.length; i += 2) {
            x.weigh(own[i] / 10, own[i] % 10, own[i + 1]);
        }
    }

    // ---- VI

    private static void trees() {
        Sentences.says("VI. TREES: sets of SIDES by which all POSTS that THIRDS have hang together without rings.");
        Due.is("a THIRD, and POSTS that none has", Due.told("posts 10;third 7 8 9;").trees(), 3);
        Due.is("two THIRDS at a POST", Due.told("posts 10;third 7 8 9;third 0 1 9;").trees(), 9);
        StringBuilder wheel = new StringBuilder("posts 10;");
        for (int i = 0; i < 9; i++) {
            wheel.append("third 9 ").append(i).append(' ').append((i + 1) % 9).append(';');
        }
        // The 18th Lucas number less 2.
        Due.is("a wheel of ten POSTS", Due.told(wheel.toString()).trees(), 5776);
        Due.is("two THIRDS at a SIDE", Due.told("posts 4;third 0 1 2;third 0 1 3;").trees(), 8);
        Due.is("two PARTS", Due.told("posts 6;third 0 1 2;third 3 4 5;").trees(), 0);
        Due.is("no THIRDS", Due.told("posts 6;").trees(), 0);
        // Its SIDES are those of three threes, each POST with all of the other two: 9 times 6 to the 6.
        Due.is("a torus of 9", Due.told(eighteen()).trees(), 9 * 46656);

        Sentences.says("FLOW from a POST to another one (of one PART): in each SIDE, if what goes through it is as the difference of its POSTS' heights, what comes to each other POST goes on, and the height of the first is the number of TREES in which it is cut from the other (of two parts, one with each), of the other 0.");
        AngleNet x = Due.told("posts 5;third 0 1 2;third 1 2 3;");
        // Cut into two parts, one with each of 0 and 3: 0 alone 3, 3 alone 3, 0 1 and 2 3, 0 2 and 1 3.
        Due.is("the first", x.height(0, 3, 0), 8);
        Due.is("the other", x.height(0, 3, 3), 0);
        Due.is("half way", x.height(0, 3, 1), 4);
        Due.is("half way", x.height(0, 3, 2), 4);
        Due.is("from 0", x.through(0, 3, 0, 1) + x.through(0, 3, 0, 2), 2);
        Due.is("comes to 1, goes on", x.through(0, 3, 0, 1), x.through(0, 3, 1, 2) + x.through(0, 3, 1, 3));
        Due.is("the other way", x.height(3, 0, 3), 8);
        Due.is("the other way", x.height(3, 0, 0), 0);
        // 1 and 2: cut into {1, 0, 3} {2} and so on.
        Due.is("along a SIDE of two", x.height(1, 2, 1), 4);
        Due.is("along a SIDE of two", x.height(1, 2, 0), 2);
        AngleNet apart = Due.told("posts 6;third 0 1 2;third 3 4 5;");
        Due.is("of one PART", apart.height(3, 4, 3), 2);
        Due.is("of two PARTS", apart.height(0, 4, 0), -2);
    }

    // ---- VII

    private static void draws() {
        Sentences.says("VII. DRAWS: x becomes (1103515245 x + 12345) modulo 2,147,483,648 (at first it is the seed); a draw of n: x / 65536, cut, modulo n.");
        int[] seeds = {0, 1, 2, 65535, 65536, 1999999999, 2000000000, 123456789, 1073741824};
        for (int seed : seeds) {
            drawn(seed, OCTA, 12);
            drawn(seed, eighteen(), 27);
            drawn(seed, "posts 4;third 0 1 2;third 0 2 3;", 5);
        }
    }

    private static void drawn(int seed, String text, int sides) {
        AngleNet x = Due.told(text);
        AngleNet y = Due.told(text);
        BigInteger state = BigInteger.valueOf(seed);
        int made = 0;
        for (int i = 0; i < 40; i++) {
            state = state.multiply(BigInteger.valueOf(1103515245)).add(BigInteger.valueOf(12345))
                    .mod(BigInteger.valueOf(2147483648L));
            int side = y.sides(state.divide(BigInteger.valueOf(65536)).mod(BigInteger.valueOf(sides)).intValue());
            made += y.flip(side / 10, side % 10) >= 0 ? 1 : 0;
        }
        Due.is("flips(" + seed + ", 40)", x.flips(seed, 40), made);
        for (int t = 0; t < x.count(1); t++) {
            for (int k = 0; k < 4; k++) {
                Due.is("third(" + t + ", " + k + ")", x.third(t, k), y.third(t, k));
            }
        }
    }
}
