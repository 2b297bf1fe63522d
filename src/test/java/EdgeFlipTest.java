/** The promises 18 to 36, sentence by sentence: each boundary case that they name, and each call that they refuse. */
public final class EdgeFlipTest {
    private static final int NONE = Due.NONE;
    private static final int NOTHING = Due.NOTHING;
    private static final int FAR = Integer.MAX_VALUE;
    private static final int LOW = Integer.MIN_VALUE;
    private static final String SQUARE = "posts 4;third 0 1 2;third 0 2 3;";
    private static final String TETRA = "posts 4;third 0 1 2;third 0 1 3;third 0 2 3;third 1 2 3;";
    private static final String OCTA = "posts 6;third 0 1 2;third 0 2 3;third 0 3 4;third 0 4 1;"
            + "third 5 1 2;third 5 2 3;third 5 3 4;third 5 4 1;";
    // 0 2 is legal, 1 3 is not.
    private static final String KITE = SQUARE + "place 0 0 0;place 1 10 0;place 2 8 8;place 3 0 10;";
    private static final int[][] NO_SIDES = {{0, 0}, {2, 2}, {1, 3}, {3, 1}, {0, 4}, {4, 0}, {-1, 0}, {0, -1}, {4, 5}, {FAR, 0},
        {0, FAR}, {LOW, 0}, {0, LOW}, {LOW, FAR}};

    private EdgeFlipTest() {
    }

    public static void main(String[] args) throws Exception {
        Sentences.read();
        turn();
        inside();
        may();
        flip();
        illegal();
        legal();
        undo();
        redo();
        flips();
        weigh();
        inscribed();
        hinders();
        cut();
        trees();
        height();
        flow();
        through();
        fourth();
        whole();
        Sentences.closePromises(18, 36);
        Due.end();
    }

    // ---- 18, 19

    private static final String PLACES = "posts 8;place 0 0 0;place 1 10 0;place 2 0 10;place 3 10 10;place 4 5 5;place 5 11 11;"
            + "place 6 20 0;";

    private static void turn() {
        Sentences.section("Promise 18: turn");
        Sentences.says("TURN of three POSTS (IV).");
        AngleNet x = Due.told(PLACES);
        Due.is("above 0", x.turn(0, 1, 2), 100);
        Due.is("below 0", x.turn(1, 0, 2), -100);
        Due.is("on a line", x.turn(0, 4, 3), 0);
        AngleNet same = Due.told("posts 3;place 0 7 7;place 1 7 7;place 2 9 9;");
        Due.is("two POSTS at one place", same.turn(0, 1, 2), 0);

        Sentences.says("NOTHING: there are none such, two alike, one has no place.");
        int[][] refused = {{-1, 1, 2}, {0, -1, 2}, {0, 1, -1}, {8, 1, 2}, {0, 8, 2}, {0, 1, 8}, {0, 0, 1}, {0, 1, 0}, {1, 0, 0},
            {7, 1, 2}, {0, 7, 2}, {0, 1, 7}, {FAR, 1, 2}, {0, LOW, 2}, {0, 1, FAR}, {0, 0, 0}, {7, 7, 7}};
        for (int[] r : refused) {
            Due.is("turn(" + r[0] + ", " + r[1] + ", " + r[2] + ")", x.turn(r[0], r[1], r[2]), NOTHING);
        }
        Due.is("no NET", new AngleNet().turn(0, 1, 2), NOTHING);
    }

    private static void inside() {
        Sentences.section("Promise 19: inside");
        Sentences.says("Above 0, if POST d lies inside of the circle through a, b, c, 0 on it, below 0 outside: 1, 0, -1");
        AngleNet x = Due.told(PLACES);
        int[][] orders = {{0, 1, 2}, {1, 2, 0}, {2, 0, 1}, {0, 2, 1}, {2, 1, 0}, {1, 0, 2}};
        for (int[] o : orders) {
            Due.is("inside", x.inside(o[0], o[1], o[2], 4), 1);
            Due.is("on it", x.inside(o[0], o[1], o[2], 3), 0);
            Due.is("outside", x.inside(o[0], o[1], o[2], 5), -1);
        }
        // By one step: on the circle of 25 about 50 50 lie 75 50, 50 75, 25 50, 70 65, 65 30.
        AngleNet fine = Due.told("posts 8;place 0 75 50;place 1 50 75;place 2 25 50;place 3 70 65;place 4 70 64;place 5 70 66;"
                + "place 6 65 30;place 7 65 29;");
        int[] due = {0, 1, -1, 0, -1};
        for (int d = 3; d < 8; d++) {
            Due.is("inside(0, 1, 2, " + d + ")", fine.inside(0, 1, 2, d), due[d - 3]);
        }
        AngleNet unit = Due.told("posts 6;place 0 0 0;place 1 1 0;place 2 0 1;place 3 1 1;place 4 2 1;place 5 1 2;");
        for (int[] o : orders) {
            Due.is("a TURN of 1: on it", unit.inside(o[0], o[1], o[2], 3), 0);
            Due.is("a TURN of 1: outside", unit.inside(o[0], o[1], o[2], 4), -1);
        }
        Due.is("a TURN of 1: inside", Due.told("posts 4;place 0 0 0;place 1 3 1;place 2 2 1;place 3 3 0;").inside(0, 1, 2, 3), 1);
        AngleNet wide = Due.told("posts 6;place 0 0 0;place 1 99 0;place 2 0 99;place 3 99 99;place 4 98 99;place 5 1 1;");
        Due.is("wide: on it", wide.inside(0, 1, 2, 3), 0);
        Due.is("wide: inside", wide.inside(0, 1, 2, 4), 1);
        Due.is("wide: inside", wide.inside(1, 2, 3, 5), 1);

        Sentences.says("(NOTHING likewise, and if a, b, c are on a line).");
        int[][] refused = {{-1, 1, 2, 3}, {0, -1, 2, 3}, {0, 1, -1, 3}, {0, 1, 2, -1}, {8, 1, 2, 3}, {0, 8, 2, 3}, {0, 1, 8, 3},
            {0, 1, 2, 8}, {0, 0, 2, 3}, {0, 1, 0, 3}, {0, 1, 2, 0}, {0, 1, 1, 3}, {0, 1, 2, 1}, {0, 1, 2, 2}, {7, 1, 2, 3},
            {0, 7, 2, 3}, {0, 1, 7, 3}, {0, 1, 2, 7}, {0, 1, 6, 3}, {6, 1, 0, 3}, {0, 4, 3, 2}, {0, 1, 2, FAR}, {LOW, 1, 2, 3}};
        for (int[] r : refused) {
            Due.is("inside(" + r[0] + ", " + r[1] + ", " + r[2] + ", " + r[3] + ")", x.inside(r[0], r[1], r[2], r[3]), NOTHING);
        }
        AngleNet same = Due.told("posts 4;place 0 0 0;place 1 9 0;place 2 9 0;place 3 0 9;");
        Due.is("two of three at one place", same.inside(0, 1, 2, 3), NOTHING);
        Due.is("d at the place of one", same.inside(0, 1, 3, 2), 0);
        Due.is("no NET", new AngleNet().inside(0, 1, 2, 3), NOTHING);
    }

    // ---- 20 to 26

    private static void may() {
        Sentences.section("Promise 20: may");
        Sentences.says("Whether a SIDE may be FLIPPED (1), is KEEN (2), ILLEGAL (4), together.");
        AngleNet x = Due.told(KITE);
        Due.is("may not be", x.may(0, 1), 0);
        Due.is("may be and is KEEN", x.may(0, 2), 3);
        Due.is("either way", x.may(2, 0), 3);
        x.flip(0, 2);
        Due.is("ILLEGAL too", x.may(1, 3), 7);
        Due.is("may be", Due.told(SQUARE).may(0, 2), 1);

        Sentences.says("-2: there is no such SIDE.");
        for (int[] r : NO_SIDES) {
            Due.is("may(" + r[0] + ", " + r[1] + ")", Due.told(KITE).may(r[0], r[1]), -2);
        }
        Due.is("no longer", x.may(0, 2), -2);
        Due.is("no NET", new AngleNet().may(0, 1), -2);
    }

    private static AngleNet done(String text, int howMany) {
        AngleNet x = Due.told(text);
        for (int i = 0; i < howMany; i++) {
            Due.is("flip " + i, i % 2 == 0 ? x.flip(0, 2) : x.flip(1, 3), i % 2 == 0 ? 13 : 2);
        }
        return x;
    }

    private static void flip() {
        Sentences.section("Promise 21: flip");
        Sentences.says("A SIDE is FLIPPED: 10 times the lesser POST of the new SIDE and the other one.");
        AngleNet x = Due.told("posts 10;third 9 1 2;third 2 8 9;");
        Due.is("the lesser first", x.flip(9, 2), 18);
        Due.is("and back", x.flip(1, 8), 29);
        Due.is("with POST 0", Due.told(SQUARE).flip(0, 2), 13);
        Due.is("with POST 0", Due.told("posts 4;third 1 2 0;third 2 1 3;").flip(1, 2), 3);

        Sentences.says("-2: there is no such SIDE; -5: it may not be; -3: 99 are done.");
        AngleNet y = Due.told(SQUARE + "weight 0 2 7;");
        String was = Due.picture(y);
        for (int[] r : NO_SIDES) {
            Due.is("flip(" + r[0] + ", " + r[1] + ")", y.flip(r[0], r[1]), -2);
        }
        int[][] rim = {{0, 1}, {1, 0}, {1, 2}, {2, 3}, {3, 0}};
        for (int[] r : rim) {
            Due.is("flip(" + r[0] + ", " + r[1] + ")", y.flip(r[0], r[1]), -5);
        }
        Due.same("nothing is FLIPPED", was, Due.picture(y));
        AngleNet full = done(SQUARE, 98);
        Due.is("the 99th", full.flip(0, 2), 13);
        was = Due.picture(full);
        Due.is("99 are done", full.flip(1, 3), -3);
        Due.is("99 are done: no such SIDE", full.flip(0, 2), -2);
        Due.is("99 are done: it may not be", full.flip(0, 1), -5);
        Due.same("nothing is FLIPPED", was, Due.picture(full));
        Due.is("undo()", full.undo(), 1);
        Due.is("98 are done", full.flip(0, 2), 13);
        Due.is("99 are done again", full.flip(1, 3), -3);
        Due.is("no NET", new AngleNet().flip(0, 1), -2);

        Sentences.says("(Weights: 0 of the new one.)");
        AngleNet z = Due.told(SQUARE + "weight 0 1 1;weight 1 2 10;weight 2 3 100;weight 0 3 200;weight 0 2 300;");
        z.flip(0, 2);
        Due.is("0 of the new one", z.weigh(1, 3, 50), 0);
        Due.is("others stay", z.cut(1), 201);
        Due.is("others stay", z.cut(4), 110);
        z.flip(1, 3);
        Due.is("0 of one that comes back", z.weigh(0, 2, 5), 0);
        z.flip(0, 2);
        Due.is("0 of one that had 50", z.weigh(1, 3, 5), 0);
    }

    private static void illegal() {
        Sentences.section("Promise 22: illegal");
        Sentences.says("The first ILLEGAL SIDE: as sides();");
        AngleNet x = Due.told(KITE);
        x.flip(0, 2);
        Due.is("one", x.illegal(), 13);
        AngleNet two = twoKites();
        Due.is("the first of two", two.illegal(), 2);
        two.flip(0, 2);
        Due.is("the other", two.illegal(), 46);

        Sentences.says("NONE: there is none.");
        two.flip(4, 6);
        Due.is("none any more", two.illegal(), NONE);
        Due.is("all legal", Due.told(KITE).illegal(), NONE);
        Due.is("no places", Due.told(SQUARE).illegal(), NONE);
        Due.is("no THIRDS", Due.told("posts 3;").illegal(), NONE);

        Sentences.says("-2: there is no NET.");
        Due.is("no NET", new AngleNet().illegal(), -2);
    }

    /** Two PARTS, each with an ILLEGAL SIDE: 0 2 and 4 6. */
    private static AngleNet twoKites() {
        return Due.told("posts 8;third 4 5 6;third 4 6 7;third 0 1 2;third 0 2 3;place 0 0 10;place 1 0 0;place 2 10 0;place 3 8 8;"
                + "place 4 50 60;place 5 50 50;place 6 60 50;place 7 58 58;");
    }

    private static void legal() {
        Sentences.section("Promise 23: legal");
        Sentences.says("The first ILLEGAL SIDE is FLIPPED, and so on, n times (1 .. 99) at most, or till 99 are done: how many were.");
        AngleNet x = twoKites();
        Due.is("1 at most", x.legal(1), 1);
        Due.is("the first", x.side(0, 2), 0);
        Due.is("not the other", x.side(4, 6), 2);
        Due.is("done", x.count(5), 1);
        Due.is("the other", x.legal(99), 1);
        Due.is("none is left", x.legal(99), 0);
        Due.is("all at once", twoKites().legal(99), 2);
        Due.is("just so many", twoKites().legal(2), 2);
        Due.is("no places", Due.told(SQUARE).legal(1), 0);
        Due.is("no THIRDS", Due.told("posts 3;").legal(1), 0);
        AngleNet y = twoKites();
        y.legal(2);
        y.undo();
        y.undo();
        y.legal(1);
        Due.is("what was undone is gone", y.redo(), 0);
        AngleNet z = Due.told(KITE);
        z.flip(0, 2);
        z.undo();
        Due.is("none was", z.legal(9), 0);
        Due.is("what was undone is not gone", z.redo(), 1);
        AngleNet full = twoKites();
        for (int i = 0; i < 98; i++) {
            Due.holds("flip " + i, (i % 2 == 0 ? full.flip(0, 2) : full.flip(1, 3)) >= 0);
        }
        Due.is("till 99 are done", full.legal(99), 1);
        Due.is("99", full.count(5), 99);
        Due.is("one is left", full.illegal(), 46);
        Due.is("99 are done", full.legal(1), 0);

        Sentences.says("-2: there is no such number, no NET.");
        int[] refused = {0, 100, -1, FAR, LOW};
        AngleNet w = twoKites();
        for (int n : refused) {
            Due.is("legal(" + n + ")", w.legal(n), -2);
        }
        Due.is("none is FLIPPED", w.count(5), 0);
        Due.is("no NET", new AngleNet().legal(1), -2);
        Due.is("no NET", new AngleNet().legal(99), -2);
    }

    private static void undo() {
        Sentences.section("Promise 24: undo");
        Sentences.says("The latest FLIP that is done is undone (its SIDE with the weight that it had, its THIRDS as they were): 1;");
        AngleNet x = Due.told("posts 5;third 2 0 1 sum 9;third 3 2 0 sum 10;third 3 4 0 sum 11;weight 0 2 70;weight 0 3 80;");
        String first = Due.picture(x);
        x.flip(0, 2);
        String second = Due.picture(x);
        x.flip(0, 3);
        x.weigh(1, 4, 33);
        Due.is("undo()", x.undo(), 1);
        Due.is("undone", x.count(6), 1);
        Due.same("as after the first", second.replaceFirst(" 1 0 1 360 ", " 1 1 1 360 "), Due.picture(x));
        Due.is("undo()", x.undo(), 1);
        Due.same("as ahead of it", first.replaceFirst(" 0 0 1 360 ", " 0 2 1 360 "), Due.picture(x));
        Due.is("the weight", x.weigh(0, 2, 70), 70);
        AngleNet higher = Due.told("posts 6;third 0 4 5;third 4 5 1;third 2 0 1;third 3 2 0;weight 0 2 70;weight 1 5 8;");
        String stood = Due.picture(higher);
        higher.flip(0, 2);
        higher.weigh(1, 3, 33);
        Due.is("undo()", higher.undo(), 1);
        Due.same("THIRDS 2 and 3 as they were", stood.replaceFirst(" 0 0 1 360 ", " 0 1 1 360 "), Due.picture(higher));
        AngleNet y = Due.told(SQUARE + "weight 0 2 70;");
        y.flips(7, 40);
        while (y.count(5) > 0) {
            Due.is("drawn ones, too", y.undo(), 1);
        }
        Due.is("as it was", y.cut(1), 70);
        AngleNet z = twoKites();
        z.legal(9);
        Due.is("legal ones, too", z.undo(), 1);
        Due.is("the latest", z.side(4, 6), 2);
        Due.is("the latest", z.side(0, 2), 0);
        AngleNet full = done(SQUARE, 99);
        for (int i = 99; i > 0; i--) {
            Due.is("undo " + i, full.undo(), 1);
            Due.is("done", full.count(5), i - 1);
        }

        Sentences.says("0: there is none.");
        Due.is("all undone", full.undo(), 0);
        Due.is("nothing happens", full.count(6), 99);
        Due.is("none was done", Due.told(SQUARE).undo(), 0);
        Due.is("no NET", new AngleNet().undo(), 0);
    }

    private static void redo() {
        Sentences.section("Promise 25: redo");
        Sentences.says("The latest that was undone is done again, if no other one was done since: 1;");
        AngleNet x = Due.told("posts 5;third 2 0 1 sum 9;third 3 2 0 sum 10;third 3 4 0 sum 11;weight 0 2 70;weight 0 3 80;");
        x.flip(0, 2);
        String once = Due.picture(x);
        x.flip(0, 3);
        String twice = Due.picture(x);
        x.undo();
        x.undo();
        Due.is("redo()", x.redo(), 1);
        Due.same("the latest that was undone is the first", once.replaceFirst(" 1 0 1 360 ", " 1 1 1 360 "), Due.picture(x));
        Due.is("redo()", x.redo(), 1);
        Due.same("then the second", twice, Due.picture(x));
        x.undo();
        x.undo();
        x.redo();
        x.undo();
        Due.is("both can be done again", x.count(6), 2);
        x.tells(0, 5);
        x.weigh(0, 1, 5);
        x.illegal();
        Due.is("what is no FLIP bars nothing", x.redo(), 1);
        x.undo();
        Due.is("a FLIP that may not be", x.flip(0, 1), -5);
        Due.is("bars nothing", x.count(6), 2);
        AngleNet full = done(SQUARE, 99);
        for (int i = 0; i < 99; i++) {
            full.undo();
        }
        for (int i = 0; i < 99; i++) {
            Due.is("redo " + i, full.redo(), 1);
        }
        Due.is("all are done", full.count(5), 99);

        Sentences.says("0: there is none.");
        Due.is("all are done", full.redo(), 0);
        Due.is("none was undone", Due.told(SQUARE).redo(), 0);
        x.flip(0, 3);
        Due.is("another one was done since", x.redo(), 0);
        Due.is("another one was done since", x.count(6), 0);
        AngleNet y = Due.told(OCTA);
        y.flips(3, 40);
        y.undo();
        Due.is("can be", y.count(6), 1);
        Due.holds("drawn since", y.flips(5, 40) > 0);
        Due.is("drawn since", y.redo(), 0);
        Due.is("no NET", new AngleNet().redo(), 0);
    }

    private static void flips() {
        Sentences.section("Promise 26: flips");
        Sentences.says("n FLIPS (1 .. 40) drawn from a seed (0 .. 2,000,000,000): each a draw of SIDES, FLIPPED, if it may be: how many were.");
        Due.holds("seed 0", Due.told(OCTA).flips(0, 1) >= 0);
        Due.holds("seed 2,000,000,000", Due.told(OCTA).flips(2000000000, 40) > 0);
        Due.is("none may be", Due.told(TETRA).flips(1, 40), 0);
        // Seed 0 draws 0 first: 0 1, which is on the RIM.
        Due.is("drawn, but not FLIPPED", Due.told(SQUARE).flips(0, 1), 0);
        // The SIDE 0 1 of two THIRDS is drawn first and FLIPPED.
        AngleNet first = Due.told("posts 4;third 0 1 2;third 0 1 3;");
        Due.is("drawn and FLIPPED", first.flips(0, 1), 1);
        Due.is("drawn and FLIPPED", first.side(2, 3), 2);
        for (int n = 1; n <= 40; n++) {
            AngleNet whole = Due.told(OCTA);
            AngleNet less = Due.told(OCTA);
            int one = whole.flips(77, n);
            Due.holds("no more than n", one >= 0 && one <= n);
            Due.is("done", whole.count(5), one);
            if (n > 1) {
                Due.holds("one draw more", one - less.flips(77, n - 1) <= 1);
            }
        }
        AngleNet full = done(SQUARE, 98);
        int most = full.flips(9, 40);
        Due.is("not more than 99", full.count(5), 98 + most);
        Due.is("one alone", most, 1);
        Due.is("none, when 99 are done", full.flips(9, 40), 0);

        Sentences.says("-2: there are none such, no SIDES.");
        AngleNet x = Due.told(OCTA);
        int[][] refused = {{0, 0}, {0, 41}, {0, -1}, {-1, 1}, {2000000001, 1}, {FAR, 1}, {LOW, 1}, {0, FAR}, {0, LOW}};
        for (int[] r : refused) {
            Due.is("flips(" + r[0] + ", " + r[1] + ")", x.flips(r[0], r[1]), -2);
        }
        Due.is("none is FLIPPED", x.count(5), 0);
        Due.is("no SIDES", Due.told("posts 3;").flips(0, 1), -2);
        Due.is("no NET", new AngleNet().flips(0, 1), -2);
    }

    // ---- 27 to 30

    private static void weigh() {
        Sentences.section("Promise 27: weigh");
        Sentences.says("A weight of a SIDE is n (0 .. 360) from now on: what it was.");
        AngleNet x = Due.told(SQUARE + "weight 2 0 7;");
        Due.is("as told", x.weigh(0, 2, 360), 7);
        Due.is("360", x.weigh(2, 0, 0), 360);
        Due.is("0", x.weigh(0, 2, 1), 0);
        Due.is("not told", x.weigh(3, 0, 2), 0);
        Due.is("from now on", x.cut(1), 3);

        Sentences.says("-2: there are none such.");
        String was = Due.picture(x);
        for (int[] r : NO_SIDES) {
            Due.is("weigh(" + r[0] + ", " + r[1] + ", 5)", x.weigh(r[0], r[1], 5), -2);
        }
        int[] refused = {-1, 361, FAR, LOW};
        for (int n : refused) {
            Due.is("weigh(0, 2, " + n + ")", x.weigh(0, 2, n), -2);
        }
        Due.same("nothing is weighed", was, Due.picture(x));
        Due.is("no NET", new AngleNet().weigh(0, 1, 1), -2);
    }

    /** A tetrahedron; opposite SIDES weigh the same. */
    private static AngleNet ball(int a, int b, int c) {
        return Due.told(TETRA + "weight 0 1 " + a + ";weight 2 3 " + a + ";weight 0 2 " + b + ";weight 1 3 " + b
                + ";weight 0 3 " + c + ";weight 1 2 " + c + ";");
    }

    /** An octahedron, 360 at each POST; the SIDES between 0 1 2 and 3 4 5 weigh so much. */
    private static AngleNet octa(int between) {
        AngleNet x = Due.told(OCTA);
        for (int i = 0; i < 12; i++) {
            int p = x.sides(i) / 10;
            int q = x.sides(i) % 10;
            x.weigh(p, q, p < 3 == q < 3 ? 180 - between : between);
        }
        return x;
    }

    private static void inscribed() {
        Sentences.section("Promise 28: inscribed");
        Sentences.says("Whether a body can be INSCRIBED: 0 it can, else why not: 1 no such surface, 2 a weight, 3 a POST, 4 another set (the least such number).");
        Due.is("it can", ball(120, 120, 120).inscribed(), 0);
        Due.is("it can", octa(90).inscribed(), 0);
        Due.is("no such surface", Due.told(SQUARE).inscribed(), 1);
        Due.is("a weight", ball(0, 180, 180).inscribed(), 2);
        Due.is("a POST", ball(1, 1, 1).inscribed(), 3);
        Due.is("another set", octa(30).inscribed(), 4);
        Due.is("a weight and a set", ball(180, 90, 90).inscribed(), 2);
        AngleNet post = octa(30);
        post.weigh(0, 1, 149);
        Due.is("a POST and a set", post.inscribed(), 3);
        post.weigh(2, 3, 180);
        Due.is("a weight, a POST and a set", post.inscribed(), 2);
        Due.is("no such surface and a weight", Due.told(SQUARE + "weight 0 1 200;").inscribed(), 1);

        Sentences.says("-2: there is no NET.");
        Due.is("no NET", new AngleNet().inscribed(), -2);
    }

    private static void hinders() {
        Sentences.section("Promise 29: hinders");
        Sentences.says("Of these, what 0: the first SIDE (as sides()) with such a weight, 1: the first POST, 2: the least set (fewest POSTS, of several the least bits; of two that are each other's others the lesser so).");
        AngleNet x = ball(120, 120, 120);
        x.weigh(3, 2, 0);
        Due.is("the first SIDE", x.hinders(0), 23);
        x.weigh(1, 2, 180);
        Due.is("the first SIDE", x.hinders(0), 12);
        x.weigh(1, 0, 360);
        Due.is("the first SIDE", x.hinders(0), 1);
        AngleNet y = ball(120, 120, 120);
        y.weigh(2, 3, 119);
        Due.is("the first POST", y.hinders(1), 2);
        y.weigh(1, 2, 121);
        Due.is("the first POST", y.hinders(1), 1);
        y.weigh(0, 3, 1);
        Due.is("the first POST", y.hinders(1), 0);
        AngleNet z = octa(30);
        Due.is("of two that are each other's others", z.hinders(2), 7);
        Due.is("of two that are each other's others", z.cut(7) + z.cut(56), 360);
        Due.is("two of four: 0 1, not 2 3", ball(180, 90, 90).hinders(2), 3);
        Due.is("two of four: 0 3, not 1 2", ball(90, 90, 180).hinders(2), 6);
        z.weigh(3, 5, 100);
        z.weigh(4, 5, 100);
        Due.is("fewest POSTS: 3 4, though 0 1 2 has lesser bits", z.hinders(2), 24);
        z.weigh(0, 2, 90);
        Due.is("of several the least bits: 0 1", z.hinders(2), 3);
        AngleNet pairs = octa(90);
        int[][] sides = {{2, 3, 1}, {2, 5, 1}, {0, 1, 1}, {0, 2, 100}, {1, 2, 100}};
        for (int[] side : sides) {
            pairs.weigh(side[0], side[1], side[2]);
        }
        Due.is("0 2 and 1 2, but not 0 1", pairs.cut(3) > 360 && pairs.cut(5) <= 360 && pairs.cut(6) <= 360 ? 1 : 0, 1);
        Due.is("of several the least bits: 0 2, not 1 2", pairs.hinders(2), 5);
        z.weigh(4, 0, 0);
        Due.is("such a weight beside", z.hinders(0), 4);

        Sentences.says("NONE: there is none such, no such surface;");
        AngleNet well = ball(120, 120, 120);
        AngleNet rim = Due.told(SQUARE + "weight 0 1 200;");
        AngleNet apart = Due.told("posts 3;");
        for (int what = 0; what < 3; what++) {
            Due.is("none such, hinders(" + what + ")", well.hinders(what), NONE);
            Due.is("no such surface, hinders(" + what + ")", rim.hinders(what), NONE);
            Due.is("no such surface, hinders(" + what + ")", apart.hinders(what), NONE);
        }
        Due.is("a POST alone", ball(120, 120, 119).hinders(0), NONE);
        Due.is("a weight alone", ball(0, 180, 180).hinders(1), NONE);
        Due.is("a set alone", octa(30).hinders(0), NONE);
        Due.is("a set alone", octa(30).hinders(1), NONE);

        Sentences.says("-2: there are none such, no NET.");
        int[] others = {-1, 3, FAR, LOW};
        for (int what : others) {
            Due.is("hinders(" + what + ")", well.hinders(what), -2);
            Due.is("no such surface, hinders(" + what + ")", rim.hinders(what), -2);
        }
        for (int what = 0; what < 3; what++) {
            Due.is("no NET, hinders(" + what + ")", new AngleNet().hinders(what), -2);
        }
    }

    private static void cut() {
        Sentences.section("Promise 30: cut");
        Sentences.says("Weights of SIDES between a set of POSTS (bits) and all others.");
        AngleNet x = Due.told("posts 5;third 0 1 2;third 0 2 3;weight 0 1 1;weight 1 2 10;weight 2 3 100;weight 0 3 200;weight 0 2 300;");
        int[][] due = {{0, 0}, {1, 501}, {2, 11}, {4, 410}, {8, 300}, {16, 0}, {3, 510}, {5, 311}, {15, 0}, {31, 0}, {30, 501}, {20, 410}};
        for (int[] d : due) {
            Due.is("cut(" + d[0] + ")", x.cut(d[0]), d[1]);
        }
        Due.is("all of ten", Due.told("posts 10;third 7 8 9;weight 8 9 5;").cut(1023), 0);
        Due.is("half of ten", Due.told("posts 10;third 7 8 9;weight 8 9 5;").cut(512), 5);

        Sentences.says("-2: there is no such set, no NET.");
        int[] refused = {-1, 32, 33, 63, 1024, FAR, LOW, 1 << 30};
        for (int set : refused) {
            Due.is("cut(" + set + ")", x.cut(set), -2);
        }
        Due.is("ten POSTS", Due.told("posts 10;").cut(1024), -2);
        Due.is("no NET", new AngleNet().cut(0), -2);
        Due.is("no NET", new AngleNet().cut(1), -2);
    }

    // ---- 31 to 36

    private static void trees() {
        Sentences.section("Promise 31: trees");
        Sentences.says("TREES (VI): how many (0 without THIRDS).");
        Due.is("a THIRD", Due.told("posts 3;third 0 1 2;").trees(), 3);
        Due.is("a ball", Due.told(TETRA).trees(), 16);
        Due.is("without THIRDS", Due.told("posts 10;").trees(), 0);
        Due.is("two PARTS", Due.told("posts 6;third 0 1 2;third 3 4 5;").trees(), 0);
        AngleNet x = Due.told(OCTA);
        Due.is("an octahedron", x.trees(), 384);
        x.flip(0, 1);
        Due.holds("other ones, when FLIPPED", x.trees() != 384);
        x.undo();
        Due.is("undone", x.trees(), 384);

        Sentences.says("-2: there is no NET.");
        Due.is("no NET", new AngleNet().trees(), -2);
    }

    // Two PARTS and a POST that no THIRD has.
    private static final String APART = "posts 8;third 0 1 2;third 3 4 5;third 4 5 6;";

    private static void height() {
        Sentences.section("Promise 32: height");
        Sentences.says("HEIGHT of a POST in the FLOW from a POST to another one.");
        AngleNet x = Due.told("posts 3;third 0 1 2;");
        Due.is("the first", x.height(0, 1, 0), 2);
        Due.is("the other", x.height(0, 1, 1), 0);
        Due.is("between", x.height(0, 1, 2), 1);
        Due.is("the other way", x.height(1, 0, 1), 2);
        Due.is("the other way", x.height(1, 0, 0), 0);

        Sentences.says("-2: there are none such, one twice, a POST that no THIRD has, not all of one PART.");
        AngleNet y = Due.told(APART);
        int[][] refused = {{-1, 1, 0}, {0, -1, 0}, {0, 1, -1}, {8, 1, 0}, {0, 8, 0}, {0, 1, 8}, {0, 0, 1}, {0, 0, 0}, {7, 1, 0},
            {0, 7, 0}, {0, 1, 7}, {7, 7, 7}, {0, 3, 0}, {0, 3, 3}, {3, 0, 3}, {0, 1, 3}, {3, 6, 2}, {FAR, 1, 0}, {0, LOW, 0}, {0, 1, FAR}};
        for (int[] r : refused) {
            Due.is("height(" + r[0] + ", " + r[1] + ", " + r[2] + ")", y.height(r[0], r[1], r[2]), -2);
        }
        Due.is("all of one PART", y.height(3, 6, 4), 4);
        Due.is("all of one PART", y.height(2, 1, 2), 2);
        Due.is("no THIRDS", Due.told("posts 3;").height(0, 1, 0), -2);
        Due.is("no NET", new AngleNet().height(0, 1, 0), -2);
    }

    private static void flow() {
        Sentences.section("Promise 33: flow");
        Sentences.says("What 0: how much flows in all, what 1: the greatest common divisor of what goes through SIDES (not 0), what 2: through how many SIDES nothing goes.");
        AngleNet x = Due.told("posts 3;third 0 1 2;");
        Due.is("in all", x.flow(0, 1, 0), 3);
        Due.is("divisor", x.flow(0, 1, 1), 1);
        Due.is("nothing goes", x.flow(0, 1, 2), 0);
        AngleNet y = Due.told(TETRA);
        Due.is("in all", y.flow(2, 0, 0), 16);
        Due.is("divisor, 0 aside", y.flow(2, 0, 1), 4);
        Due.is("nothing goes", y.flow(2, 0, 2), 1);
        AngleNet square = Due.told(SQUARE);
        Due.is("in all", square.flow(1, 3, 0), 8);
        Due.is("divisor", square.flow(1, 3, 1), 4);
        Due.is("nothing goes", square.flow(1, 3, 2), 1);
        // What hangs by one POST alone takes no part.
        AngleNet tail = Due.told("posts 5;third 0 1 2;third 2 3 4;");
        Due.is("in all", tail.flow(0, 1, 0), 9);
        Due.is("divisor", tail.flow(0, 1, 1), 3);
        Due.is("nothing goes", tail.flow(0, 1, 2), 3);

        Sentences.says("-2 likewise, no such what.");
        AngleNet z = Due.told(APART);
        int[][] refused = {{-1, 1, 0}, {0, -1, 0}, {8, 1, 0}, {0, 8, 0}, {0, 0, 0}, {7, 1, 0}, {0, 7, 0}, {0, 3, 0}, {6, 1, 2}, {0, 1, -1},
            {0, 1, 3}, {0, 1, FAR}, {0, 1, LOW}, {FAR, 1, 0}, {LOW, 1, 1}, {0, FAR, 2}};
        for (int[] r : refused) {
            Due.is("flow(" + r[0] + ", " + r[1] + ", " + r[2] + ")", z.flow(r[0], r[1], r[2]), -2);
        }
        Due.is("of one PART", z.flow(0, 1, 0), 3);
        Due.is("no THIRDS", Due.told("posts 3;").flow(0, 1, 0), -2);
        Due.is("no NET", new AngleNet().flow(0, 1, 0), -2);
    }

    private static void through() {
        Sentences.section("Promise 34: through");
        Sentences.says("What goes through a SIDE from p to q (below 0: the other way), by that divisor.");
        AngleNet x = Due.told(TETRA);
        Due.is("from p to q", x.through(2, 0, 2, 0), 2);
        Due.is("the other way", x.through(2, 0, 0, 2), -2);
        Due.is("the other way", x.through(0, 2, 2, 0), -2);
        Due.is("by the divisor", x.through(2, 0, 2, 3), 1);
        Due.is("nothing", x.through(2, 0, 1, 3), 0);
        Due.is("nothing", x.through(2, 0, 3, 1), 0);

        Sentences.says("NOTHING: as -2, no such SIDE.");
        AngleNet y = Due.told(APART);
        int[][] refused = {{-1, 1, 0, 1}, {0, -1, 0, 1}, {8, 1, 0, 1}, {0, 8, 0, 1}, {0, 0, 0, 1}, {7, 1, 0, 1}, {0, 7, 0, 1},
            {0, 3, 0, 1}, {6, 1, 3, 4}, {3, 6, 3, 6}, {0, 1, 0, 0}, {0, 1, 0, 8}, {0, 1, -1, 0}, {0, 1, 7, 0}, {0, 1, 0, 3}, {0, 1, 3, 4},
            {FAR, 1, 0, 1}, {0, 1, LOW, 1}, {0, 1, 0, FAR}, {0, LOW, 0, 1}};
        for (int[] r : refused) {
            Due.is("through(" + r[0] + ", " + r[1] + ", " + r[2] + ", " + r[3] + ")", y.through(r[0], r[1], r[2], r[3]), NOTHING);
        }
        Due.is("of one PART", y.through(0, 1, 0, 1), 2);
        Due.is("of one PART", y.through(3, 6, 3, 4), 1);
        Due.is("no NET", new AngleNet().through(0, 1, 0, 1), NOTHING);
    }

    private static AngleNet circles(int a, int b, int c) {
        return Due.told("posts 3;third 0 1 2;circle 0 " + a + ";circle 1 " + b + ";circle 2 " + c + ";");
    }

    private static void fourth() {
        Sentences.section("Promise 35: fourth");
        Sentences.says("CIRCLES at the POSTS of a THIRD touch one another; a fourth one touches all three: its bend, the greater (what 0), the lesser (1): together a, b, c and twice the root of (ab and bc and ca), or less twice that.");
        int[][] due = {{2, 2, 3, 15, -1}, {2, 3, 15, 38, 2}, {0, 0, 0, 0, 0}, {0, 0, 9999, 9999, 9999}, {9999, 0, 9999, 39996, 0},
            {1, 1, 0, 4, 0}, {9999, 9999, 0, 39996, 0}, {1, 4, 9, 28, 0}, {3, 6, 7, 34, -2}};
        for (int[] d : due) {
            AngleNet x = circles(d[0], d[1], d[2]);
            Due.is("fourth(0, 0) of " + d[0] + " " + d[1] + " " + d[2], x.fourth(0, 0), d[3]);
            Due.is("fourth(0, 1) of " + d[0] + " " + d[1] + " " + d[2], x.fourth(0, 1), d[4]);
        }
        manyCircles();
        AngleNet all = Due.told("posts 9;third 0 1 2;third 3 4 5;third 6 7 8;circle 0 2;circle 1 2;circle 2 3;circle 3 1;circle 4 4;"
                + "circle 5 9;circle 6 3;circle 7 6;circle 8 7;");
        int[] bends = {15, -1, 28, 0, 34, -2};
        for (int i = 0; i < 6; i++) {
            Due.is("fourth(" + i / 2 + ", " + i % 2 + ")", all.fourth(i / 2, i % 2), bends[i]);
        }

        Sentences.says("NOTHING: that is no whole number, one has no circle, there are none such.");
        Due.is("no whole number", circles(1, 1, 1).fourth(0, 0), NOTHING);
        Due.is("no whole number", circles(1, 1, 1).fourth(0, 1), NOTHING);
        Due.is("no whole number", circles(9999, 9999, 9999).fourth(0, 0), NOTHING);
        Due.is("no whole number", circles(0, 1, 2).fourth(0, 0), NOTHING);
        for (int p = 0; p < 3; p++) {
            AngleNet lacks = Due.told("posts 3;third 0 1 2;circle " + p + " 0;circle " + (p + 1) % 3 + " 0;");
            Due.is("one has no circle", lacks.fourth(0, 0), NOTHING);
            Due.is("one has no circle", lacks.fourth(0, 1), NOTHING);
        }
        AngleNet x = circles(2, 2, 3);
        int[][] refused = {{-1, 0}, {1, 0}, {0, -1}, {0, 2}, {FAR, 0}, {LOW, 0}, {0, FAR}, {0, LOW}};
        for (int[] r : refused) {
            Due.is("fourth(" + r[0] + ", " + r[1] + ")", x.fourth(r[0], r[1]), NOTHING);
        }
        Due.is("no NET", new AngleNet().fourth(0, 0), NOTHING);
    }

    /** All small bends and some great ones, by counting through. */
    private static void manyCircles() {
        int[] bends = {0, 1, 2, 3, 4, 6, 11, 15, 23, 38, 4999, 9801, 9998, 9999};
        for (int a : bends) {
            for (int b : bends) {
                for (int c : bends) {
                    long square = (long) a * b + (long) b * c + (long) c * a;
                    long root = (long) Math.sqrt((double) square);
                    while (root * root < square) {
                        root++;
                    }
                    long due = root * root == square ? a + b + c + 2 * root : NOTHING;
                    AngleNet x = circles(a, b, c);
                    Due.is("fourth(0, 0) of " + a + " " + b + " " + c, x.fourth(0, 0), due);
                    Due.is("fourth(0, 1) of " + a + " " + b + " " + c, x.fourth(0, 1), due == NOTHING ? NOTHING : due - 4 * root);
                }
            }
        }
    }

    private static void whole() {
        Sentences.section("Promise 36: whole");
        Sentences.says("THIRDS for which it is one, as bits.");
        Due.is("one", circles(2, 2, 3).whole(), 1);
        Due.is("none", circles(1, 1, 1).whole(), 0);
        Due.is("no circles", Due.told(TETRA).whole(), 0);
        Due.is("no THIRDS", Due.told("posts 3;circle 0 1;").whole(), 0);
        Due.is("some", Due.told(TETRA + "circle 0 2;circle 1 2;circle 2 3;circle 3 15;").whole(), 15);
        Due.is("some", Due.told(TETRA + "circle 0 1;circle 1 1;circle 2 0;circle 3 1;").whole(), 1 | 4 | 8);
        StringBuilder text = new StringBuilder("posts 10;");
        for (int t = 0; t < 9; t++) {
            int both = (t / 3 * 3 + (t + 1) % 3 + 3) % 9;
            text.append("circle ").append(t).append(" 0;");
            text.append("third ").append(t).append(' ').append(t / 3 * 3 + (t + 1) % 3).append(' ').append(both).append(';');
            text.append("third ").append(t).append(' ').append(both).append(' ').append((t + 3) % 9).append(';');
        }
        Due.is("all 18", Due.told(text.toString()).whole(), (1 << 18) - 1);

        Sentences.says("-2: there is no NET.");
        Due.is("no NET", new AngleNet().whole(), -2);
    }
}
