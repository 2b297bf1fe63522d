/** The promises 1 to 17, sentence by sentence: each boundary case that they name, and each call that they refuse. */
public final class EdgeTest {
    private static final int NONE = Due.NONE;
    private static final int NOTHING = Due.NOTHING;
    private static final int FAR = Integer.MAX_VALUE;
    private static final int LOW = Integer.MIN_VALUE;
    private static final String SQUARE = "posts 4;third 0 1 2;third 0 2 3;";
    private static final String TETRA = "posts 4;third 0 1 2;third 0 1 3;third 0 2 3;third 1 2 3;";
    private static final String OCTA = "posts 6;third 0 1 2;third 0 2 3;third 0 3 4;third 0 4 1;"
            + "third 5 1 2;third 5 2 3;third 5 3 4;third 5 4 1;";
    private static final String RICH = SQUARE + "angle 0 90;angle 2 70;corner 5 to 170;weight 0 2 44;weight 1 2 9;"
            + "place 0 0 0;place 1 9 0;place 2 9 9;place 3 1 9;circle 0 3;circle 3 8;";

    private EdgeTest() {
    }

    public static void main(String[] args) throws Exception {
        Sentences.read();
        newObject();
        feed();
        end();
        net();
        fault();
        third();
        post();
        side();
        surface();
        round();
        over();
        can();
        range();
        tells();
        free();
        Sentences.closePromises(1, 17);
        Due.end();
    }

    // ---- 1 to 5

    private static void newObject() {
        Sentences.section("Promise 1: A new object");
        Sentences.says("No NET.");
        AngleNet x = new AngleNet();
        for (int what = 0; what <= 10; what++) {
            Due.is("count(" + what + ")", x.count(what), 0);
        }
        for (int what = 0; what <= 6; what++) {
            Due.is("surface(" + what + ")", x.surface(what), -2);
        }
        long[] refused = {x.third(0, 0), x.post(0, 0), x.side(0, 1), x.round(0, 0), x.can(), x.bars(0), x.range(0, 0, 0),
            x.tells(0, 1), x.free(0, 0), x.may(0, 1), x.flip(0, 1), x.illegal(), x.legal(1), x.flips(0, 1), x.weigh(0, 1, 1),
            x.inscribed(), x.hinders(0), x.cut(0), x.trees(), x.height(0, 1, 0), x.flow(0, 1, 0), x.whole(), x.judge(0), x.laid(0)};
        for (int i = 0; i < refused.length; i++) {
            Due.is("refused call " + i, refused[i], -2);
        }
        long[] nothing = {x.over(), x.turn(0, 1, 2), x.inside(0, 1, 2, 3), x.through(0, 1, 0, 1), x.fourth(0, 0)};
        for (int i = 0; i < nothing.length; i++) {
            Due.is("call for NOTHING " + i, nothing[i], NOTHING);
        }
        Due.is("sides(0)", x.sides(0), NONE);
        Due.is("undo()", x.undo(), 0);
        Due.is("redo()", x.redo(), 0);
        Due.is("NONE", AngleNet.NONE, -1);
        Due.tell(new AngleNet(), RICH);
        Due.is("another object's NET is its own", new AngleNet().count(0), 0);
    }

    private static void feed() {
        Sentences.section("Promise 2: feed");
        Sentences.says("Twenty bytes come behind the TAPE, four of each number, the highest first: how many it has;");
        AngleNet x = new AngleNet();
        Due.is("feed", x.feed(0x706f7374, 0x7320333b, 0x616e676c, 0x65203020, 0x373b2020), 20);
        Due.is("feed", x.feed(0x0a0a0a0a, 0x616e676c, 0x65203120, 0x31323334, 0x3b202020), 40);
        Due.is("net()", x.net(), 3);
        Due.is("the first", x.post(0, 0), 7);
        Due.is("the second", x.post(1, 0), 1234);
        Due.is("from none on again", x.feed(0, 0, 0, 0, 0), 20);
        x.end(7);
        Due.is("behind what was left", x.feed(0, 0, 0, 0, 0), 27);
        AngleNet high = new AngleNet();
        high.feed(0x706f7374, 0x73ff3b3b, -1, LOW, FAR);
        Due.is("a highest byte of 255", high.net(), -4);
        Due.is("is a TOKEN that is none", high.fault(1), 5);

        Sentences.says("NONE, and none come, if it would have more than 1,600.");
        AngleNet full = new AngleNet();
        for (int i = 1; i <= 80; i++) {
            Due.is("feed " + i, full.feed(0x20202020, 0x20202020, 0x20202020, 0x20202020, 0x20202020), 20 * i);
        }
        Due.is("81st", full.feed(0x20202020, 0, 0, 0, 0), NONE);
        Due.is("none come", full.count(4), 1600);
        Due.is("end(1581)", full.end(1581), 1581);
        Due.is("1,601", full.feed(0x3b3b3b3b, 0, 0, 0, 0), NONE);
        Due.is("none come", full.count(4), 1581);
        Due.is("none come", full.net(), 0);
        for (int i = 1; i <= 80; i++) {
            full.feed(0x20202020, 0x20202020, 0x20202020, 0x20202020, 0x20202020);
        }
        full.end(1580);
        Due.is("just 1,600", full.feed(0x20202020, 0x20202020, 0x20202020, 0x20202020, 0x2020203b), 1600);
        Due.is("the last byte counts", full.net(), -4);
        Due.is("the last byte counts", full.fault(1), 1599);
        char[] lasts = {' ', '\n', '3', 'x', 0};
        for (char last : lasts) {
            AngleNet y = new AngleNet();
            Due.feed(y, " ".repeat(1599) + last);
            Due.is("1,600 bytes", y.count(4), 1600);
            Due.is("blanks and byte " + (int) last, y.net(), last == ' ' || last == '\n' ? 0 : -4);
            Due.is("fault(1)", y.fault(1), last == ' ' || last == '\n' ? NONE : 1599);
        }
    }

    private static void end() {
        Sentences.section("Promise 3: end");
        Sentences.says("The TAPE has its first n bytes alone: n;");
        AngleNet x = new AngleNet();
        Due.is("end(0) of none", x.end(0), 0);
        Due.feed(x, "posts 3;posts 3;");
        Due.is("end(16)", x.end(16), 16);
        Due.is("end(15)", x.end(15), 15);
        Due.is("count(4)", x.count(4), 15);
        Due.is("end(8)", x.end(8), 8);
        Due.is("net()", x.net(), 1);
        Due.feed(x, "posts 4;");
        Due.is("end(0)", x.end(0), 0);
        Due.is("count(4)", x.count(4), 0);
        Due.is("net()", x.net(), 0);

        Sentences.says("NONE, and nothing happens, if it has not so many, or n is below 0.");
        AngleNet y = new AngleNet();
        Due.is("end(1) of none", y.end(1), NONE);
        Due.feed(y, "posts 3;");
        int[] refused = {9, 20, 1600, FAR, -1, LOW};
        for (int n : refused) {
            Due.is("end(" + n + ")", y.end(n), NONE);
            Due.is("nothing happens", y.count(4), 8);
        }
        Due.is("net()", y.net(), 1);
        Due.is("what was cut is gone", y.end(8), NONE);
        String[][] cut = {{"posts 3  ", "1", "7"}, {"posts 10;", "2", "6"}, {"posts 3;third", "1", "8"}, {"posts 3;\n\n\n", "0", "-1"}};
        int[] lengths = {7, 7, 12, 9};
        for (int i = 0; i < cut.length; i++) {
            y.end(0);
            Due.feed(y, cut[i][0]);
            y.end(lengths[i]);
            y.net();
            Due.is("what was cut counts no more: fault(0) of " + cut[i][0], y.fault(0), Integer.parseInt(cut[i][1]));
            Due.is("what was cut counts no more: fault(1) of " + cut[i][0], y.fault(1), Integer.parseInt(cut[i][2]));
        }
    }

    private static void net() {
        Sentences.section("Promise 4: net");
        Sentences.says("The TAPE (empty then) is the NET (in place of another): how many LINES;");
        AngleNet x = Due.told(RICH);
        Due.is("LINES", x.count(3), 14);
        Due.is("the TAPE is empty", x.count(4), 0);
        x.tells(3, 33);
        Due.is("another", Due.tell(x, "posts 5;third 4 3 2;"), 2);
        Due.same("nothing of the other is left", Due.picture(Due.told("posts 5;third 4 3 2;")), Due.picture(x));
        AngleNet after = Due.told(Due.greatest());
        Due.is("after the greatest", Due.tell(after, RICH), 14);
        Due.same("nothing of the greatest is left", Due.answers(Due.told(RICH)), Due.answers(after));
        Due.tell(after, Due.greatest());
        Due.same("nothing of the lesser is left", Due.answers(Due.told(Due.greatest())), Due.answers(after));
        Due.is("an empty TAPE: no NET", x.net(), 0);
        Due.same("no NET", Due.picture(new AngleNet()), Due.picture(x));
        Due.is("no NET", x.can(), -2);
        Due.tell(x, RICH);
        Due.is("blanks alone", Due.tell(x, " \n"), 0);
        Due.is("no NET", x.can(), -2);
        Due.is("the TAPE is empty", x.count(4), 0);
        StringBuilder many = new StringBuilder("posts 3;");
        for (int i = 0; i < 144; i++) {
            many.append("circle 0 1;");
        }
        Due.is("many LINES", Due.tell(new AngleNet(), many.toString()), 145);

        Sentences.says("nothing is done or undone then.");
        AngleNet y = Due.told(SQUARE);
        y.flip(0, 2);
        y.flip(1, 3);
        y.undo();
        Due.is("net()", Due.tell(y, SQUARE), 3);
        Due.is("done", y.count(5), 0);
        Due.is("undone", y.count(6), 0);
        Due.is("undo()", y.undo(), 0);
        Due.is("redo()", y.redo(), 0);

        Sentences.says("-4: a FAULT (all stays).");
        AngleNet z = Due.told(RICH);
        z.flip(0, 2);
        z.flip(1, 3);
        z.undo();
        z.keep(1);
        z.row(0, 0, 3);
        String was = Due.picture(z);
        Due.is("net()", Due.tell(z, "posts 10;third 0 1 2;angle 0 9;corner 0 to 9;angle 0 0;"), -4);
        Due.same("the NET, what is done and undone", was, Due.picture(z));
        Due.is("the TAPE", z.count(4), 55);
        Due.is("SLOTS", z.count(10), 1);
        Due.is("net() again", z.net(), -4);
        Due.is("end(54)", z.end(54), 54);
        Due.is("net(), now faulty at its end", z.net(), -4);
        Due.is("fault(1)", z.fault(1), 53);
        Due.is("end(45)", z.end(45), 45);
        Due.is("without the faulty LINE", z.net(), 4);
        Due.is("IMAGES", z.back(1), 0);
        Due.same("IMAGES", was, Due.picture(z));
        AngleNet none = new AngleNet();
        Due.is("net()", Due.tell(none, "posts 3;third 0 1 2;x"), -4);
        Due.same("no NET", Due.picture(new AngleNet()), Due.picture(none));
    }

    private static void fault() {
        Sentences.section("Promise 5: fault");
        Sentences.says("Of the latest net(), what 0: its FAULT, 0 without, 1: its place (NONE without).");
        AngleNet x = new AngleNet();
        Due.tell(x, "posts 2;");
        Due.is("its FAULT", x.fault(0), 2);
        Due.is("its place", x.fault(1), 6);
        Due.tell(x, "?");
        Due.is("the latest", x.fault(0), 1);
        Due.is("at 0", x.fault(1), 0);
        x.end(0);
        Due.feed(x, "posts 2;");
        Due.is("not read yet", x.fault(1), 0);
        Due.tell(x, "posts 3;");
        Due.is("0 without", x.fault(0), 0);
        Due.is("NONE without", x.fault(1), NONE);

        Sentences.says("NONE for another what, and ahead of any (what 1).");
        int[] others = {-1, 2, 3, FAR, LOW};
        for (int what : others) {
            Due.is("fault(" + what + ")", x.fault(what), NONE);
            Due.is("fault(" + what + ") ahead", new AngleNet().fault(what), NONE);
        }
        Due.is("fault(1) ahead", new AngleNet().fault(1), NONE);
        Due.is("fault(0) ahead", new AngleNet().fault(0), 0);
        Due.tell(x, "?");
        Due.is("fault(2)", x.fault(2), NONE);
        Due.is("fault(-1)", x.fault(-1), NONE);
    }

    // ---- 6 to 11

    private static void third() {
        Sentences.section("Promise 6: third");
        Sentences.says("The POST at CORNER k (0 .. 2) of a THIRD (k 3: its sum).");
        AngleNet x = Due.told("posts 10;third 9 0 5 sum 540;third 5 8 9;");
        int[] due = {9, 0, 5, 540, 5, 8, 9, 180};
        for (int i = 0; i < 8; i++) {
            Due.is("third(" + i / 4 + ", " + i % 4 + ")", x.third(i / 4, i % 4), due[i]);
        }

        Sentences.says("-2: there are none such.");
        int[][] refused = {{-1, 0}, {2, 0}, {0, -1}, {0, 4}, {1, 4}, {FAR, 0}, {LOW, 0}, {0, FAR}, {0, LOW}, {18, 0}};
        for (int[] r : refused) {
            Due.is("third(" + r[0] + ", " + r[1] + ")", x.third(r[0], r[1]), -2);
        }
        Due.is("no THIRDS", Due.told("posts 3;").third(0, 0), -2);
        Due.is("no NET", new AngleNet().third(0, 3), -2);
    }

    private static void post() {
        Sentences.section("Promise 7: post");
        Sentences.says("Of a POST, what 0: the angle told (NONE), 1, 2: X, Y (NONE), 3: circle (NONE), 4: how many THIRDS have it, 5: SIDES at it.");
        AngleNet x = Due.told("posts 5;third 0 1 2;third 0 2 3;angle 0 3600;place 1 0 99;circle 2 0;");
        int[][] due = {{3600, NONE, NONE, NONE, 2, 3}, {NONE, 0, 99, NONE, 1, 2}, {NONE, NONE, NONE, 0, 2, 3},
            {NONE, NONE, NONE, NONE, 1, 2}, {NONE, NONE, NONE, NONE, 0, 0}};
        for (int p = 0; p < 5; p++) {
            for (int what = 0; what < 6; what++) {
                Due.is("post(" + p + ", " + what + ")", x.post(p, what), due[p][what]);
            }
        }
        AngleNet fan = Due.told("posts 10;third 9 0 1;third 9 1 2;third 9 2 3;third 9 3 4;third 9 4 5;third 9 5 6;third 9 6 7;"
                + "third 9 7 8;third 9 8 0;");
        Due.is("nine THIRDS", fan.post(9, 4), 9);
        Due.is("nine SIDES", fan.post(9, 5), 9);

        Sentences.says("-2: there are none such.");
        int[][] refused = {{-1, 0}, {5, 0}, {5, 4}, {0, -1}, {0, 6}, {FAR, 0}, {LOW, 0}, {0, FAR}, {0, LOW}, {10, 5}};
        for (int[] r : refused) {
            Due.is("post(" + r[0] + ", " + r[1] + ")", x.post(r[0], r[1]), -2);
        }
        Due.is("no NET", new AngleNet().post(0, 4), -2);
    }

    private static void side() {
        Sentences.section("Promise 8: side");
        Sentences.says("How many THIRDS have the SIDE of two POSTS.");
        AngleNet x = Due.told("posts 10;third 0 1 9;third 9 0 2;");
        Due.is("two", x.side(0, 9), 2);
        Due.is("two", x.side(9, 0), 2);
        Due.is("one", x.side(1, 9), 1);
        Due.is("one", x.side(2, 0), 1);
        Due.is("none", x.side(1, 2), 0);
        Due.is("none", x.side(7, 8), 0);

        Sentences.says("-2: there are none such, one twice.");
        int[][] refused = {{0, 0}, {9, 9}, {0, 10}, {10, 0}, {-1, 0}, {0, -1}, {10, 10}, {FAR, 0}, {0, LOW}, {LOW, FAR}};
        for (int[] r : refused) {
            Due.is("side(" + r[0] + ", " + r[1] + ")", x.side(r[0], r[1]), -2);
        }
        Due.is("no NET", new AngleNet().side(0, 1), -2);

        Sentences.section("Promise 9: sides");
        Sentences.says("The SIDE i (II): 10 times the lesser POST and the other one;");
        Due.is("sides(0)", x.sides(0), 1);
        Due.is("sides(1)", x.sides(1), 2);
        Due.is("sides(2)", x.sides(2), 9);
        Due.is("sides(3)", x.sides(3), 19);
        Due.is("sides(4)", x.sides(4), 29);
        Due.is("the greatest", Due.told("posts 10;third 9 8 7;").sides(2), 89);

        Sentences.says("NONE: there is none such.");
        int[] none = {5, -1, 45, FAR, LOW};
        for (int i : none) {
            Due.is("sides(" + i + ")", x.sides(i), NONE);
        }
        Due.is("no THIRDS", Due.told("posts 3;").sides(0), NONE);
        Due.is("no NET", new AngleNet().sides(0), NONE);
    }

    private static void surface() {
        Sentences.section("Promise 10: surface");
        Sentences.says("What 0: EULER, 1: 1 if GOOD, else 0, 2: PARTS, 3: 1 if TWO-SIDED, else 0, 4: SIDES of the RIM,");
        String twist = "posts 5;third 0 1 2;third 1 2 3;third 2 3 4;third 3 4 0;third 4 0 1;";
        String bow = "posts 5;third 0 1 2;third 0 3 4;";
        String two = "posts 7;third 0 1 2;third 3 4 5;third 3 4 6;";
        int[][] due = {{0, 1, 0, 1, 0}, {1, 1, 1, 1, 4}, {2, 1, 1, 1, 0}, {0, 1, 1, 0, 5}, {1, 0, 1, 1, 6}, {2, 1, 2, 1, 7}};
        String[] texts = {"posts 10;", SQUARE, TETRA, twist, bow, two};
        for (int i = 0; i < texts.length; i++) {
            AngleNet x = Due.told(texts[i]);
            for (int what = 0; what < 5; what++) {
                Due.is("surface(" + what + ") of " + texts[i], x.surface(what), due[i][what]);
            }
        }

        Sentences.says("5: how many rings the RIM has (NONE, if not GOOD),");
        String band = "posts 6;third 0 1 3;third 1 3 4;third 1 2 4;third 2 4 5;third 2 0 5;third 0 5 3;";
        Due.is("no RIM", Due.told(TETRA).surface(5), 0);
        Due.is("no THIRDS", Due.told("posts 3;").surface(5), 0);
        Due.is("one", Due.told(SQUARE).surface(5), 1);
        Due.is("one of a twisted strip", Due.told(twist).surface(5), 1);
        Due.is("two of one PART", Due.told(band).surface(5), 2);
        Due.is("two of two PARTS", Due.told(two).surface(5), 2);
        Due.is("three", Due.told("posts 9;third 0 1 2;third 3 4 5;third 6 7 8;").surface(5), 3);
        Due.is("three, one among the others", Due.told("posts 10;third 0 3 9;third 1 4 7;third 2 5 8;").surface(5), 3);
        Due.is("not GOOD", Due.told(bow).surface(5), NONE);

        Sentences.says("6: HANDLES (of one PART, GOOD, TWO-SIDED: 2 less EULER less rings, by 2), else NONE.");
        Due.is("a ball", Due.told(TETRA).surface(6), 0);
        Due.is("a disc", Due.told(SQUARE).surface(6), 0);
        Due.is("a band", Due.told(band).surface(6), 0);
        Due.is("a torus", Due.told(torus()).surface(6), 1);
        Due.is("a torus less a THIRD", Due.told(torus().replace("third 0 1 3;", "")).surface(6), 1);
        Due.is("two PARTS", Due.told(two).surface(6), NONE);
        Due.is("no PART", Due.told("posts 3;").surface(6), NONE);
        Due.is("not GOOD", Due.told(bow).surface(6), NONE);
        Due.is("not TWO-SIDED", Due.told(twist).surface(6), NONE);

        Sentences.says("-2: there is no such what, no NET.");
        int[] others = {-1, 7, FAR, LOW};
        for (int what : others) {
            Due.is("surface(" + what + ")", Due.told(TETRA).surface(what), -2);
        }
        for (int what = 0; what < 7; what++) {
            Due.is("no NET, surface(" + what + ")", new AngleNet().surface(what), -2);
        }
    }

    private static String torus() {
        StringBuilder text = new StringBuilder("posts 7;");
        for (int i = 0; i < 7; i++) {
            text.append("third ").append(i).append(' ').append((i + 1) % 7).append(' ').append((i + 3) % 7).append(';');
            text.append("third ").append(i).append(' ').append((i + 2) % 7).append(' ').append((i + 3) % 7).append(';');
        }
        return text.toString();
    }

    private static void round(AngleNet x, int post, int... due) {
        for (int i = 0; i < due.length; i++) {
            Due.is("round(" + post + ", " + i + ")", x.round(post, i), due[i]);
        }
        Due.is("round(" + post + ", " + due.length + ")", x.round(post, due.length), NONE);
    }

    private static void round() {
        Sentences.section("Promise 11: round");
        Sentences.says("POSTS round a POST, from the i-th on:");
        AngleNet x = Due.told("posts 6;third 0 4 3;third 0 1 4;third 0 1 2;");
        round(x, 0, 2, 1, 4, 3);
        round(x, 1, 2, 0, 4);
        round(x, 2, 0, 1);

        Sentences.says("it begins at the least POST beside it that is on a RIM SIDE with it, or else at the least one,");
        // 1 is the least beside 0, but 2 and 3 are on the RIM with it.
        Due.is("a RIM SIDE", x.round(0, 0), 2);
        AngleNet ball = Due.told(OCTA);
        Due.is("no RIM SIDE", ball.round(5, 0), 1);
        Due.is("no RIM SIDE", ball.round(3, 0), 0);
        AngleNet inner = Due.told("posts 5;third 4 1 0;third 4 3 2;third 4 0 3;third 4 2 1;");
        Due.is("none of its SIDES is on the RIM", inner.round(4, 0), 0);

        Sentences.says("and goes on by THIRDS, first (of two) by that with the lesser other POST;");
        round(inner, 4, 0, 1, 2, 3);
        round(Due.told("posts 5;third 4 3 0;third 4 0 2;third 4 1 3;third 4 1 2;"), 4, 0, 2, 1, 3);
        round(ball, 5, 1, 2, 3, 4);
        round(ball, 3, 0, 2, 5, 4);
        round(Due.told(TETRA), 3, 0, 1, 2);

        Sentences.says("NONE: there is none such, it is not GOOD.");
        int[] none = {-1, 4, 5, FAR, LOW};
        for (int i : none) {
            Due.is("round(0, " + i + ")", x.round(0, i), NONE);
        }
        Due.is("no THIRD has it", x.round(5, 0), NONE);
        AngleNet bow = Due.told("posts 6;third 0 1 2;third 0 3 4;");
        for (int p = 0; p < 6; p++) {
            Due.is("not GOOD, round(" + p + ", 0)", bow.round(p, 0), NONE);
        }

        Sentences.says("-2: there is no such POST.");
        int[] refused = {-1, 6, 10, FAR, LOW};
        for (int p : refused) {
            Due.is("round(" + p + ", 0)", x.round(p, 0), -2);
            Due.is("not GOOD, round(" + p + ", 0)", bow.round(p, -1), -2);
        }
        Due.is("no NET", new AngleNet().round(0, 0), -2);
    }

    // ---- 12 to 17

    private static void over() {
        Sentences.section("Promise 12: over");
        Sentences.says("How much more told angles are, together, than sums of THIRDS, if all POSTS that THIRDS have are told.");
        AngleNet x = Due.told("posts 4;third 0 1 2 sum 100;third 1 2 3;angle 0 70;angle 1 70;angle 2 70;angle 3 70;");
        Due.is("as much", x.over(), 0);
        x.tells(3, 71);
        Due.is("more", x.over(), 1);
        x.tells(3, 69);
        Due.is("less", x.over(), -1);
        Due.is("a POST that no THIRD has, not told", Due.told("posts 4;third 0 1 2;angle 0 60;angle 1 60;angle 2 60;").over(), 0);
        Due.is("no THIRDS, none told", Due.told("posts 3;").over(), 0);
        Due.is("no THIRDS, one told", Due.told("posts 3;angle 1 9;").over(), 9);
        AngleNet greatest = Due.told(Due.greatest());
        Due.is("ten POSTS, 18 THIRDS", greatest.over(), 0);
        greatest.tells(9, 61);
        Due.is("ten POSTS, 18 THIRDS", greatest.over(), 1);
        Due.is("all told angles", Due.told("posts 4;third 0 1 2;angle 0 60;angle 1 60;angle 2 60;angle 3 4;").over(), 4);

        Sentences.says("NOTHING (-1,000,000): one is not, there is no NET.");
        for (int p = 0; p < 4; p++) {
            int was = x.tells(p, 0);
            Due.is(p + " is not", x.over(), -1000000);
            x.tells(p, was);
        }
        Due.is("no NET", new AngleNet().over(), -1000000);
    }

    private static void can() {
        Sentences.section("Promise 13: can");
        Sentences.says("Whether CORNERS can be LAID: 1, 0.");
        AngleNet x = Due.told(SQUARE);
        Due.is("nothing told", x.can(), 1);
        x.tells(1, 178);
        Due.is("178", x.can(), 1);
        x.tells(1, 179);
        Due.is("179, two others have 1", x.can(), 0);
        x.tells(1, 1);
        Due.is("1", x.can(), 1);
        x.tells(2, 358);
        Due.is("all of one THIRD, but 1, 1 and 1", x.can(), 0);
        x.tells(2, 356);
        Due.is("178 and 178", x.can(), 1);
        Due.is("no THIRDS", Due.told("posts 3;").can(), 1);
        Due.is("an angle where no THIRD is", Due.told("posts 3;angle 0 1;").can(), 0);

        Sentences.says("-2: there is no NET.");
        Due.is("no NET", new AngleNet().can(), -2);

        Sentences.section("Promise 14: bars");
        Sentences.says("What BARS it, what 0: POSTS (the fewest, of several sets the least bits),");
        AngleNet y = Due.told("posts 5;third 0 1 2;third 2 3 4;angle 4 179;angle 3 200;angle 1 300;");
        Due.is("the least bits of three", y.bars(0), 2);
        y.tells(1, 0);
        Due.is("the least bits of two", y.bars(0), 8);
        y.tells(3, 0);
        Due.is("one", y.bars(0), 16);
        y.tells(4, 100);
        y.tells(3, 80);
        Due.is("two", y.bars(0), 24);
        y.tells(0, 200);
        Due.is("fewer", y.bars(0), 1);
        AngleNet pairs = Due.told("posts 3;third 0 1 2;angle 0 50;angle 1 50;angle 2 150;");
        Due.is("the least bits of two pairs: 0 2, not 1 2", pairs.bars(0), 5);
        AngleNet empty = Due.told("posts 3;third 0 1 2 sum 9;corner 4 to 9;angle 0 100;");
        Due.is("none of them is the fewest", empty.bars(0), 0);
        AngleNet all = Due.told("posts 3;third 0 1 2;angle 0 60;angle 1 60;angle 2 61;");
        Due.is("all", all.bars(0), 7);

        Sentences.says("what 1: 1 or 2 (III; 1, if both).");
        Due.is("1", all.bars(1), 1);
        all.tells(2, 59);
        Due.is("2", all.bars(1), 2);
        Due.is("2 of the same", all.bars(0), 7);
        AngleNet both = Due.told("posts 6;third 0 1 2 sum 100;third 3 4 5 sum 300;corner 50 to 60;");
        Due.is("both", both.bars(1), 1);
        Due.is("both", both.bars(0), 0);
        Due.is("2 alone", Due.told("posts 6;third 0 1 2 sum 150;third 3 4 5 sum 300;corner 50 to 60;").bars(1), 2);

        Sentences.says("NONE: nothing does;");
        Due.is("what 0", x.bars(0), NONE);
        Due.is("what 1", x.bars(1), NONE);
        Due.is("no THIRDS", Due.told("posts 3;").bars(0), NONE);

        Sentences.says("-2: there are none such, no NET.");
        int[] others = {-1, 2, FAR, LOW};
        for (int what : others) {
            Due.is("bars(" + what + "), nothing does", x.bars(what), -2);
            Due.is("bars(" + what + "), something does", all.bars(what), -2);
        }
        Due.is("no NET", new AngleNet().bars(0), -2);
        Due.is("no NET", new AngleNet().bars(1), -2);
    }

    private static void range(AngleNet x, int third, int k, int least, int most) {
        Due.is("range(" + third + ", " + k + ", 0)", x.range(third, k, 0), least);
        Due.is("range(" + third + ", " + k + ", 1)", x.range(third, k, 1), most);
    }

    private static void range() {
        Sentences.section("Promise 15: range");
        Sentences.says("The least (what 0), the greatest (1) that a CORNER can have, when all are LAID.");
        range(Due.told("posts 3;third 0 1 2;"), 0, 0, 1, 178);
        range(Due.told("posts 3;third 0 1 2 sum 540;"), 0, 2, 1, 360);
        range(Due.told("posts 3;third 0 1 2 sum 3;"), 0, 1, 1, 1);
        range(Due.told("posts 3;third 0 1 2;corner 0 to 360;"), 0, 1, 0, 180);
        range(Due.told("posts 3;third 0 1 2;corner 10 to 70;"), 0, 1, 40, 70);
        range(Due.told("posts 3;third 0 1 2;corner 50 to 90;"), 0, 1, 50, 80);
        range(Due.told("posts 3;third 0 1 2;corner 60 to 60;"), 0, 1, 60, 60);
        AngleNet x = Due.told(SQUARE + "angle 0 100;angle 1 30;");
        range(x, 0, 0, 1, 99);
        range(x, 0, 1, 30, 30);
        range(x, 0, 2, 51, 149);
        range(x, 1, 0, 1, 99);
        x.tells(2, 220);
        range(x, 0, 2, 51, 149);
        range(x, 1, 1, 71, 169);
        range(x, 1, 2, 10, 10);

        Sentences.says("NONE: they can't;");
        x.tells(1, 179);
        for (int t = 0; t < 2; t++) {
            for (int k = 0; k < 3; k++) {
                range(x, t, k, NONE, NONE);
            }
        }
        range(Due.told("posts 3;third 0 1 2;corner 0 to 59;"), 0, 0, NONE, NONE);
        range(Due.told("posts 4;third 0 1 2;angle 3 1;"), 0, 0, NONE, NONE);

        Sentences.says("-2: there are none such.");
        int[][] refused = {{-1, 0, 0}, {2, 0, 0}, {0, -1, 0}, {0, 3, 0}, {0, 0, -1}, {0, 0, 2}, {FAR, 0, 0}, {LOW, 0, 0},
            {0, FAR, 0}, {0, LOW, 0}, {0, 0, FAR}, {0, 0, LOW}};
        for (int[] r : refused) {
            Due.is("range(" + r[0] + ", " + r[1] + ", " + r[2] + "), they can't", x.range(r[0], r[1], r[2]), -2);
            Due.is("range(" + r[0] + ", " + r[1] + ", " + r[2] + ")", Due.told(SQUARE).range(r[0], r[1], r[2]), -2);
        }
        Due.is("no THIRDS", Due.told("posts 3;").range(0, 0, 0), -2);
        Due.is("no NET", new AngleNet().range(0, 0, 0), -2);
    }

    private static void tells() {
        Sentences.section("Promise 16: tells");
        Sentences.says("The angle of a POST is n from now on (0: none is told): which it was (NONE).");
        AngleNet x = Due.told("posts 4;third 0 1 2;angle 0 60;");
        Due.is("none was", x.tells(1, 1), NONE);
        Due.is("1", x.tells(1, 3600), 1);
        Due.is("3,600", x.post(1, 0), 3600);
        Due.is("3,600", x.tells(1, 0), 3600);
        Due.is("none is", x.post(1, 0), NONE);
        Due.is("none is", x.tells(1, 0), NONE);
        Due.is("as told by the text", x.tells(0, 7), 60);
        Due.is("another POST's stays", x.post(2, 0), NONE);
        Due.is("no THIRD has it", x.tells(3, 5), NONE);
        Due.is("no THIRD has it", x.post(3, 0), 5);
        Due.is("it counts", x.bars(0), 8);
        x.tells(3, 0);
        Due.is("it counts no more", x.bars(0), NONE);

        Sentences.says("-2: there are none such (0 .. 3,600).");
        int[][] refused = {{-1, 5}, {4, 5}, {0, -1}, {0, 3601}, {FAR, 5}, {LOW, 5}, {0, FAR}, {0, LOW}};
        String was = Due.picture(x);
        for (int[] r : refused) {
            Due.is("tells(" + r[0] + ", " + r[1] + ")", x.tells(r[0], r[1]), -2);
        }
        Due.same("nothing is told", was, Due.picture(x));
        Due.is("no NET", new AngleNet().tells(0, 0), -2);
    }

    private static void free(AngleNet x, int post, int least, int most) {
        Due.is("free(" + post + ", 0)", x.free(post, 0), least);
        Due.is("free(" + post + ", 1)", x.free(post, 1), most);
    }

    private static void free() {
        Sentences.section("Promise 17: free");
        Sentences.says("The least angle (what 0), the greatest (1), of 1 .. 3,600, of a POST, all else as told, by which CORNERS can be LAID.");
        AngleNet x = Due.told(SQUARE);
        free(x, 0, 2, 356);
        free(x, 1, 1, 178);
        x.tells(1, 100);
        free(x, 0, 2, 79 + 178);
        free(x, 1, 1, 178);
        x.tells(0, 3600);
        free(x, 0, 2, 79 + 178);
        AngleNet zero = Due.told("posts 3;third 0 1 2;corner 0 to 360;");
        free(zero, 0, 1, 180);
        zero.tells(1, 179);
        free(zero, 0, 1, 1);
        // The most that can be at a POST: nine THIRDS, 360 of each.
        StringBuilder wheel = new StringBuilder("posts 10;corner 0 to 360;");
        for (int i = 0; i < 9; i++) {
            wheel.append("third 9 ").append(i).append(' ').append((i + 1) % 9).append(" sum 540;");
        }
        free(Due.told(wheel.toString()), 9, 1, 3240);
        free(Due.told(wheel.toString().replace("0 to", "180 to")), 9, 1620, 1620);

        Sentences.says("NONE: by none;");
        x.tells(0, 0);
        x.tells(1, 179);
        free(x, 0, NONE, NONE);
        free(x, 3, NONE, NONE);
        free(x, 1, 1, 178);
        zero.tells(1, 180);
        free(zero, 0, NONE, NONE);
        free(Due.told("posts 3;third 0 1 2;corner 0 to 59;"), 0, NONE, NONE);

        Sentences.says("-2: there are none such, no THIRD has it.");
        AngleNet y = Due.told(SQUARE.replace("posts 4", "posts 5"));
        int[][] refused = {{-1, 0}, {5, 0}, {0, -1}, {0, 2}, {FAR, 0}, {LOW, 0}, {0, FAR}, {0, LOW}, {4, 0}, {4, 1}};
        for (int[] r : refused) {
            Due.is("free(" + r[0] + ", " + r[1] + ")", y.free(r[0], r[1]), -2);
        }
        y.tells(4, 9);
        Due.is("no THIRD has it, though it is told", y.free(4, 0), -2);
        Due.is("no THIRD has another that is told", y.free(0, 0), NONE);
        Due.is("no NET", new AngleNet().free(0, 0), -2);
    }
}
