/** For each promise of the document: ordinary inputs, the edges that it names, and wrong inputs. */
public final class PromiseTest {
    private static final int NONE = Due.NONE;
    private static final int NOTHING = Due.NOTHING;

    private static final String SQUARE = "posts 5;third 0 1 2;third 0 2 3;";
    private static final String TETRA = "posts 4;third 0 1 2;third 0 1 3;third 0 2 3;third 1 2 3;";
    private static final String TETRA_EVEN = TETRA
            + "weight 0 1 120;weight 0 2 120;weight 0 3 120;weight 1 2 120;weight 1 3 120;weight 2 3 120;";
    // POST 2 is pulled in, so that the SIDE 0 2 is legal and 1 3 is not.
    private static final String KITE = "posts 4;third 0 1 2;third 0 2 3;place 0 0 0;place 1 10 0;place 2 8 8;place 3 0 10;";

    private static String octa() {
        return "posts 6;third 0 1 2;third 0 2 3;third 0 3 4;third 0 4 1;"
                + "third 5 1 2;third 5 2 3;third 5 3 4;third 5 4 1;";
    }

    private static String torus() {
        StringBuilder text = new StringBuilder("posts 7;");
        for (int i = 0; i < 7; i++) {
            text.append("third ").append(i).append(' ').append((i + 1) % 7).append(' ').append((i + 3) % 7).append(';');
            text.append("third ").append(i).append(' ').append((i + 2) % 7).append(' ').append((i + 3) % 7).append(';');
        }
        return text.toString();
    }

    private static final String MOEBIUS = "posts 5;third 0 1 2;third 1 2 3;third 2 3 4;third 3 4 0;third 4 0 1;";
    private static final String PLANE = "posts 6;third 0 1 2;third 0 2 3;third 0 3 4;third 0 4 5;third 0 5 1;"
            + "third 1 2 4;third 2 3 5;third 3 4 1;third 4 5 2;third 5 1 3;";

    public static void main(String[] args) {
        newObject();
        tape();
        net();
        faults();
        thirdsAndPosts();
        sides();
        surfaces();
        round();
        over();
        laying();
        free();
        places();
        may();
        flipping();
        undoing();
        legal();
        drawn();
        weights();
        inscribed();
        trees();
        flow();
        fourth();
        judge();
        laid();
        count();
        images();
        rows();
        paste();
        Due.end();
    }

    private static void newObject() {
        Due.about("1 a new object");
        AngleNet x = new AngleNet();
        Due.is("count(0)", x.count(0), 0);
        Due.is("count(7)", x.count(7), 0);
        Due.is("can()", x.can(), -2);
        Due.is("post(0, 0)", x.post(0, 0), -2);
        Due.is("third(0, 0)", x.third(0, 0), -2);
        Due.is("sides(0)", x.sides(0), NONE);
        Due.is("surface(1)", x.surface(1), -2);
        Due.is("over()", x.over(), NOTHING);
        Due.is("trees()", x.trees(), -2);
        Due.is("illegal()", x.illegal(), -2);
        Due.is("cut(0)", x.cut(0), -2);
        Due.is("turn(0, 1, 2)", x.turn(0, 1, 2), NOTHING);
        Due.is("judge(0)", x.judge(0), -2);
        Due.is("laid(0)", x.laid(0), -2);
        Due.is("undo()", x.undo(), 0);
        Due.is("redo()", x.redo(), 0);
        Due.is("flips(1, 1)", x.flips(1, 1), -2);
        Due.is("NONE", AngleNet.NONE, -1);
    }

    private static void tape() {
        Due.about("2 feed, 3 end");
        AngleNet x = new AngleNet();
        Due.is("end(0)", x.end(0), 0);
        Due.is("end(1)", x.end(1), NONE);
        // "posts 3;" with the highest byte first, then blanks and line ends.
        int a = 'p' << 24 | 'o' << 16 | 's' << 8 | 't';
        int b = 's' << 24 | ' ' << 16 | '3' << 8 | ';';
        Due.is("feed", x.feed(a, b, 0x20202020, 0x0a0a0a0a, 0x200a200a), 20);
        Due.is("count(4)", x.count(4), 20);
        Due.is("end(21)", x.end(21), NONE);
        Due.is("end(-1)", x.end(-1), NONE);
        Due.is("net()", x.net(), 1);
        Due.is("count(0)", x.count(0), 3);
        Due.is("count(4)", x.count(4), 0);
        for (int i = 1; i <= 80; i++) {
            Due.is("feed", x.feed(0, 0, 0, 0, 0), 20 * i);
        }
        Due.is("feed beyond", x.feed(0, 0, 0, 0, 0), NONE);
        Due.is("count(4)", x.count(4), 1600);
        Due.is("end(1581)", x.end(1581), 1581);
        Due.is("feed beyond by one", x.feed(0, 0, 0, 0, 0), NONE);
        Due.is("end(1580)", x.end(1580), 1580);
        Due.is("feed just so", x.feed(0, 0, 0, 0, 0), 1600);
        Due.is("end(5)", x.end(5), 5);
        Due.is("count(4)", x.count(4), 5);
    }

    private static void net() {
        Due.about("4 net");
        AngleNet x = new AngleNet();
        Due.is("empty", x.net(), 0);
        Due.is("fault(0)", x.fault(0), 0);
        Due.is("lines", Due.tell(x, SQUARE + "angle 0 90;"), 4);
        Due.is("count(3)", x.count(3), 4);
        Due.is("flip", x.flip(0, 2), 13);
        Due.is("faulty", Due.tell(x, "posts 3;third 0 1 3;"), -4);
        Due.is("the NET stays", x.count(0), 5);
        Due.is("the FLIP stays", x.count(5), 1);
        Due.is("the TAPE stays", x.count(4), 20);
        Due.is("faulty again", x.net(), -4);
        x.end(8);
        Due.feed(x, " third 0 1 2;");
        Due.is("mended", x.net(), 2);
        Due.is("the TAPE is empty", x.count(4), 0);
        Due.is("nothing is done", x.count(5), 0);
        Due.tell(x, SQUARE + "angle 0 90;");
        x.flip(0, 2);
        Due.is("undo", x.undo(), 1);
        Due.is("count(6)", x.count(6), 1);
        Due.is("another", Due.tell(x, "posts 3 ; third 2 1 0 sum 100 ;\n"), 2);
        Due.is("nothing undone", x.count(6), 0);
        Due.is("third(0, 0)", x.third(0, 0), 2);
        Due.is("third(0, 3)", x.third(0, 3), 100);
        Due.is("post(0, 0)", x.post(0, 0), NONE);
        Due.tell(x, SQUARE + "corner 3 to 4;weight 0 2 9;angle 0 1;place 0 1 1;circle 0 1;");
        Due.is("corner in the next one, too", Due.tell(x, SQUARE + "corner 5 to 6;"), 4);
        Due.is("no weight", x.cut(1), 0);
        Due.is("no angle", x.post(0, 0), NONE);
        Due.is("no place", x.post(0, 1), NONE);
        Due.is("no circle", x.post(0, 3), NONE);
        Due.tell(x, SQUARE);
        Due.is("no corner", x.count(7), 1);
        Due.is("no corner", x.count(8), 360);
        Due.is("blanks alone", Due.tell(x, " \n "), 0);
        Due.is("no NET", x.can(), -2);
    }

    private static void fault(String text, int kind, int place) {
        AngleNet x = new AngleNet();
        Due.is("net() of " + text, Due.tell(x, text), -4);
        Due.is("fault(0) of " + text, x.fault(0), kind);
        Due.is("fault(1) of " + text, x.fault(1), place);
    }

    private static void faults() {
        Due.about("5 fault");
        AngleNet x = new AngleNet();
        Due.is("fault(0) ahead", x.fault(0), 0);
        Due.is("fault(1) ahead", x.fault(1), NONE);
        Due.is("fault(2) ahead", x.fault(2), NONE);
        Due.tell(x, "posts 3;\r");
        Due.is("fault(0)", x.fault(0), 1);
        Due.is("fault(1)", x.fault(1), 8);
        Due.is("fault(-1)", x.fault(-1), NONE);
        Due.is("net()", Due.tell(x, "posts 3;"), 1);
        Due.is("fault(0)", x.fault(0), 0);
        Due.is("fault(1)", x.fault(1), NONE);
        faultsOfTokens();
        faultsOfNumbers();
        faultsOfThirds();
    }

    private static void faultsOfTokens() {
        fault("post 4;", 1, 0);
        fault("posts4", 1, 6);
        fault("postsz 4;", 1, 0);
        fault("zposts 4;", 1, 0);
        fault("pasts 4;", 1, 0);
        fault("posts 4;mhird 0 1 2;", 1, 8);
        fault("posts 4;thirm 0 1 2;", 1, 8);
        fault("posts", 1, 5);
        fault("posts 4 \n", 1, 9);
        fault(";", 1, 0);
        fault("4", 1, 0);
        fault(" third 0 1 2;", 1, 1);
        fault("posts 4;posts 4;", 1, 8);
        fault("posts 4;sum 4;", 1, 8);
        fault("posts 4;to 4;", 1, 8);
        fault("posts 4;;", 1, 8);
        fault("posts x;", 1, 6);
        fault("posts 4 4;", 1, 8);
        fault("posts 4;Third 0 1 2;", 1, 8);
        fault("posts 4;third 0 1;", 1, 17);
        fault("posts 4;third 0 1 2 3;", 1, 20);
        fault("posts 4;third 0 1 2 sum;", 1, 23);
        fault("posts 4;third 0 1 2 sun 9;", 1, 20);
        fault("posts 4;third 0 1 2 sum 9 sum 9;", 1, 26);
        fault("posts 4;corner 1 2;", 1, 17);
        fault("posts 4;corner 1 too 2;", 1, 17);
        fault("posts 4;angle 0 -1;", 1, 16);
        fault("posts 4;place 0 1;", 1, 17);
        fault("posts 4;circle 0;", 1, 16);
        fault("posts 4;thirds 0 1 2;", 1, 8);
        fault("posts 4;" + (char) 0, 1, 8);
        fault("posts 4;" + (char) 228, 1, 8);
        fault("posts 4;\t", 1, 8);
        Due.is("no blanks", Due.tell(new AngleNet(), "posts3;third0 1 2sum3;angle0 1;corner1to2;"), 4);
    }

    private static void faultsOfNumbers() {
        fault("posts 2;", 2, 6);
        fault("posts 11", 2, 6);
        fault("posts 99999999999999999999;", 2, 6);
        fault("posts 4294967300;", 2, 6);
        fault("posts 4;angle 4 9;", 2, 14);
        fault("posts 4;angle 0 0;", 2, 16);
        fault("posts 4;angle 0 3601;", 2, 16);
        fault("posts 4;corner 361 to 361;", 2, 15);
        fault("posts 4;corner 9 to 8;", 2, 20);
        fault("posts 4;corner 9 to 361;", 2, 20);
        fault("posts 4;corner 9 to 9;corner", 2, 22);
        fault("posts 4;weight 0 0 1;", 2, 17);
        fault("posts 4;weight 0 1 1;third 0 1 2;", 2, 17);
        fault("posts 4;third 0 1 2;weight 0 3 1;", 2, 29);
        fault("posts 4;third 0 1 2;weight 4 1 1;", 2, 27);
        fault("posts 4;third 0 1 2;weight 0 1 361;", 2, 31);
        fault("posts 4;place 0 100 0;", 2, 16);
        fault("posts 4;place 0 0 100;", 2, 18);
        fault("posts 4;circle 0 10000;", 2, 17);
        fault("posts 4;third 0 1 2 sum 2;", 2, 24);
        fault("posts 4;third 0 1 2 sum 541;", 2, 24);
        Due.is("edges", Due.tell(new AngleNet(), "posts 003;third 0 1 2 sum 540;angle 0 3600;angle 0 1;"
                + "corner 0 to 0;weight 1 0 360;weight 1 0 0;place 2 99 99;circle 1 9999;circle 1 0;"), 10);
    }

    private static void faultsOfThirds() {
        fault("posts 4;third 0 1 4;", 2, 18);
        fault("posts 4;third 1 1 2;", 2, 16);
        fault("posts 4;third 1 2 1;", 2, 18);
        fault("posts 4;third 0 1 2;third 2 0 1;", 2, 30);
        fault("posts 5;third 0 1 2;third 0 1 3;third 0 1 4;", 2, 42);
        fault("posts 5;third 0 1 2;third 0 1 3;third 0 4 1;", 2, 42);
        fault("posts 5;third 0 1 2;third 0 1 3;third 4 0 1;", 2, 42);
        fault("posts 5;third 0 1 2;third 0 1 3;third 0 1;", 1, 41);
        StringBuilder torus = new StringBuilder("posts 10;");
        for (int t = 0; t < 9; t++) {
            int right = t / 3 * 3 + (t + 1) % 3;
            int down = (t + 3) % 9;
            int both = (right + 3) % 9;
            torus.append("third ").append(t).append(' ').append(right).append(' ').append(both).append(';');
            torus.append("third ").append(t).append(' ').append(both).append(' ').append(down).append(';');
        }
        Due.is("18 thirds", Due.tell(new AngleNet(), torus.toString()), 19);
        fault(torus + "third", 3, torus.length());
        fault(torus + "third 0 0 0;", 3, torus.length());
    }

    private static void thirdsAndPosts() {
        Due.about("6 third, 7 post");
        AngleNet x = Due.told("posts 4;third 3 1 2;third 2 0 1 sum 77;angle 1 20;angle 1 30;place 1 7 8;place 1 9 0;circle 2 5;circle 2 6;");
        Due.is("third(0, 0)", x.third(0, 0), 3);
        Due.is("third(0, 1)", x.third(0, 1), 1);
        Due.is("third(0, 2)", x.third(0, 2), 2);
        Due.is("third(0, 3)", x.third(0, 3), 180);
        Due.is("third(1, 3)", x.third(1, 3), 77);
        Due.is("third(1, 4)", x.third(1, 4), -2);
        Due.is("third(1, -1)", x.third(1, -1), -2);
        Due.is("third(2, 0)", x.third(2, 0), -2);
        Due.is("third(-1, 0)", x.third(-1, 0), -2);
        Due.is("post(1, 0)", x.post(1, 0), 30);
        Due.is("post(0, 0)", x.post(0, 0), NONE);
        Due.is("post(1, 1)", x.post(1, 1), 9);
        Due.is("post(1, 2)", x.post(1, 2), 0);
        Due.is("post(2, 1)", x.post(2, 1), NONE);
        Due.is("post(2, 2)", x.post(2, 2), NONE);
        Due.is("post(2, 3)", x.post(2, 3), 6);
        Due.is("post(1, 3)", x.post(1, 3), NONE);
        Due.is("post(1, 4)", x.post(1, 4), 2);
        Due.is("post(3, 4)", x.post(3, 4), 1);
        Due.is("post(1, 5)", x.post(1, 5), 3);
        Due.is("post(3, 5)", x.post(3, 5), 2);
        Due.is("post(1, 6)", x.post(1, 6), -2);
        Due.is("post(1, -1)", x.post(1, -1), -2);
        Due.is("post(4, 0)", x.post(4, 0), -2);
        Due.is("post(-1, 0)", x.post(-1, 0), -2);
    }

    private static void sides() {
        Due.about("8 side, 9 sides");
        AngleNet x = Due.told(SQUARE);
        Due.is("side(0, 2)", x.side(0, 2), 2);
        Due.is("side(2, 0)", x.side(2, 0), 2);
        Due.is("side(1, 0)", x.side(1, 0), 1);
        Due.is("side(1, 3)", x.side(1, 3), 0);
        Due.is("side(0, 4)", x.side(0, 4), 0);
        Due.is("side(1, 1)", x.side(1, 1), -2);
        Due.is("side(0, 5)", x.side(0, 5), -2);
        Due.is("side(-1, 0)", x.side(-1, 0), -2);
        int[] all = {1, 2, 3, 12, 23};
        for (int i = 0; i < 5; i++) {
            Due.is("sides(" + i + ")", x.sides(i), all[i]);
        }
        Due.is("sides(5)", x.sides(5), NONE);
        Due.is("sides(-1)", x.sides(-1), NONE);
        Due.is("sides(MAX)", x.sides(Integer.MAX_VALUE), NONE);
    }

    private static void surface(String name, String text, int... due) {
        AngleNet x = Due.told(text);
        for (int what = 0; what < 7; what++) {
            Due.is("surface(" + what + ") of " + name, x.surface(what), due[what]);
        }
        Due.is("surface(7)", x.surface(7), -2);
        Due.is("surface(-1)", x.surface(-1), -2);
    }

    private static void surfaces() {
        Due.about("10 surface");
        surface("no thirds", "posts 4;", 0, 1, 0, 1, 0, 0, NONE);
        surface("a square", SQUARE, 1, 1, 1, 1, 4, 1, 0);
        surface("a tetrahedron", TETRA, 2, 1, 1, 1, 0, 0, 0);
        surface("an octahedron", octa(), 2, 1, 1, 1, 0, 0, 0);
        surface("a torus", torus(), 0, 1, 1, 1, 0, 0, 1);
        surface("a torus less a third", torus().replace("third 0 1 3;", ""), -1, 1, 1, 1, 3, 1, 1);
        surface("a strip with a twist", MOEBIUS, 0, 1, 1, 0, 5, 1, NONE);
        surface("a projective plane", PLANE, 1, 1, 1, 0, 0, 0, NONE);
        surface("two thirds at one post", "posts 5;third 0 1 2;third 0 3 4;", 1, 0, 1, 1, 6, NONE, NONE);
        surface("two parts", "posts 6;third 0 1 2;third 3 4 5;", 2, 1, 2, 1, 6, 2, NONE);
        surface("a ring", "posts 6;third 0 1 3;third 1 3 4;third 1 2 4;third 2 4 5;third 2 0 5;third 0 5 3;",
                0, 1, 1, 1, 6, 2, 0);
    }

    private static void round(AngleNet x, int post, int... due) {
        for (int i = 0; i < due.length; i++) {
            Due.is("round(" + post + ", " + i + ")", x.round(post, i), due[i]);
        }
        Due.is("round(" + post + ", " + due.length + ")", x.round(post, due.length), NONE);
        Due.is("round(" + post + ", -1)", x.round(post, -1), NONE);
    }

    private static void round() {
        Due.about("11 round");
        AngleNet x = Due.told(SQUARE);
        round(x, 0, 1, 2, 3);
        round(x, 1, 0, 2);
        round(x, 2, 1, 0, 3);
        round(x, 4);
        Due.is("round(5, 0)", x.round(5, 0), -2);
        Due.is("round(-1, 0)", x.round(-1, 0), -2);
        round(Due.told(octa()), 0, 1, 2, 3, 4);
        round(Due.told(octa()), 1, 0, 2, 5, 4);
        round(Due.told("posts 6;third 5 4 1;third 5 1 3;third 5 3 2;third 5 2 4;"), 5, 1, 3, 2, 4);
        AngleNet bow = Due.told("posts 6;third 0 1 2;third 0 3 4;");
        Due.is("round(1, 0), not GOOD", bow.round(1, 0), NONE);
        Due.is("round(0, 0), not GOOD", bow.round(0, 0), NONE);
        Due.is("round(6, 0)", bow.round(6, 0), -2);
    }

    private static void over() {
        Due.about("12 over");
        AngleNet x = Due.told("posts 4;third 0 1 2 sum 200;angle 0 100;angle 1 50;");
        Due.is("one is not told", x.over(), NOTHING);
        x.tells(2, 40);
        Due.is("less", x.over(), -10);
        x.tells(2, 70);
        Due.is("more", x.over(), 20);
        x.tells(3, 5);
        Due.is("all told angles count", x.over(), 25);
        Due.is("no thirds", Due.told("posts 3;angle 0 4;").over(), 4);
    }

    private static void laying() {
        Due.about("13 can, 14 bars, 15 range, 16 tells");
        AngleNet x = Due.told("posts 4;third 0 1 2;third 0 2 3;angle 1 90;angle 3 100;corner 10 to 120;");
        Due.is("can()", x.can(), 1);
        Due.is("bars(0)", x.bars(0), NONE);
        Due.is("bars(1)", x.bars(1), NONE);
        Due.is("bars(2)", x.bars(2), -2);
        Due.is("bars(-1)", x.bars(-1), -2);
        Due.is("range(0, 1, 0)", x.range(0, 1, 0), 90);
        Due.is("range(0, 1, 1)", x.range(0, 1, 1), 90);
        Due.is("range(0, 0, 0)", x.range(0, 0, 0), 10);
        Due.is("range(0, 0, 1)", x.range(0, 0, 1), 80);
        Due.is("range(1, 0, 1)", x.range(1, 0, 1), 70);
        Due.is("tells(0, 30)", x.tells(0, 30), NONE);
        Due.is("range(0, 0, 0)", x.range(0, 0, 0), 10);
        Due.is("range(0, 0, 1)", x.range(0, 0, 1), 20);
        Due.is("range(0, 2, 0)", x.range(0, 2, 0), 70);
        Due.is("range(1, 1, 1)", x.range(1, 1, 1), 70);
        Due.is("tells(0, 151)", x.tells(0, 151), 30);
        Due.is("can()", x.can(), 0);
        Due.is("bars(0)", x.bars(0), 11);
        Due.is("bars(1)", x.bars(1), 1);
        Due.is("range(0, 0, 0)", x.range(0, 0, 0), NONE);
        Due.is("tells(0, 19)", x.tells(0, 19), 151);
        Due.is("bars(0), less than must be", x.bars(0), 1);
        Due.is("bars(1), less than must be", x.bars(1), 2);
        Due.is("tells(0, 0)", x.tells(0, 0), 19);
        Due.is("post(0, 0)", x.post(0, 0), NONE);
        Due.is("tells(0, 3600)", x.tells(0, 3600), NONE);
        Due.is("tells(0, 3601)", x.tells(0, 3601), -2);
        Due.is("tells(0, -1)", x.tells(0, -1), -2);
        Due.is("tells(4, 1)", x.tells(4, 1), -2);
        Due.is("tells(-1, 1)", x.tells(-1, 1), -2);
        Due.is("range(2, 0, 0)", x.range(2, 0, 0), -2);
        Due.is("range(0, 3, 0)", x.range(0, 3, 0), -2);
        Due.is("range(0, 0, 2)", x.range(0, 0, 2), -2);
        layingAtEdges();
    }

    private static void layingAtEdges() {
        Due.is("no thirds", Due.told("posts 3;").can(), 1);
        AngleNet alone = Due.told("posts 3;angle 2 1;");
        Due.is("an angle at no third", alone.can(), 0);
        Due.is("its set", alone.bars(0), 4);
        Due.is("its way", alone.bars(1), 1);
        AngleNet much = Due.told("posts 3;third 0 1 2;corner 61 to 90;");
        Due.is("the least of three above the sum", much.can(), 0);
        Due.is("the empty set", much.bars(0), 0);
        Due.is("asks for more", much.bars(1), 1);
        AngleNet little = Due.told("posts 3;third 0 1 2;corner 0 to 59;angle 0 1;");
        Due.is("the empty set", little.bars(0), 0);
        Due.is("asks for less", little.bars(1), 2);
        Due.is("range, when they can't", little.range(0, 0, 1), NONE);
        AngleNet two = Due.told("posts 4;third 0 1 2;angle 1 200;angle 2 200;angle 0 200;");
        Due.is("the least bits of several", two.bars(0), 1);
        AngleNet both = Due.told("posts 6;third 0 1 2;third 3 4 5;corner 61 to 90;third 0 1 5 sum 300;");
        Due.is("1, if both", both.bars(1), 1);
    }

    private static void free() {
        Due.about("17 free");
        AngleNet x = Due.told("posts 4;third 0 1 2;third 0 2 3;angle 1 90;angle 3 100;corner 10 to 120;");
        Due.is("free(0, 0)", x.free(0, 0), 20);
        Due.is("free(0, 1)", x.free(0, 1), 150);
        Due.is("free(1, 0)", x.free(1, 0), 10);
        Due.is("free(1, 1)", x.free(1, 1), 120);
        Due.is("free(0, 2)", x.free(0, 2), -2);
        Due.is("free(0, -1)", x.free(0, -1), -2);
        Due.is("free(4, 0)", x.free(4, 0), -2);
        x.tells(0, 3000);
        Due.is("free(0, 1), whatever is told of it", x.free(0, 1), 150);
        Due.is("free(1, 1), barred by another", x.free(1, 1), NONE);
        Due.is("no third has it", Due.told(SQUARE).free(4, 0), -2);
        AngleNet none = Due.told("posts 3;third 0 1 2;corner 0 to 180;angle 0 90;angle 1 90;");
        Due.is("an angle of 0 is none", none.free(2, 0), NONE);
        Due.is("an angle of 0 is none", none.free(2, 1), NONE);
        none.tells(1, 0);
        Due.is("1 at least", none.free(1, 0), 1);
        Due.is("free(1, 1)", none.free(1, 1), 90);
    }

    private static void places() {
        Due.about("18 turn, 19 inside");
        AngleNet x = Due.told("posts 8;place 0 0 0;place 1 10 0;place 2 0 10;place 3 10 10;place 4 5 5;place 5 11 11;place 6 20 0;");
        Due.is("turn(0, 1, 2)", x.turn(0, 1, 2), 100);
        Due.is("turn(0, 2, 1)", x.turn(0, 2, 1), -100);
        Due.is("turn(0, 1, 6)", x.turn(0, 1, 6), 0);
        Due.is("turn(0, 0, 1)", x.turn(0, 0, 1), NOTHING);
        Due.is("turn(0, 1, 1)", x.turn(0, 1, 1), NOTHING);
        Due.is("turn(0, 1, 0)", x.turn(0, 1, 0), NOTHING);
        Due.is("turn(0, 1, 7)", x.turn(0, 1, 7), NOTHING);
        Due.is("turn(0, 1, 8)", x.turn(0, 1, 8), NOTHING);
        Due.is("turn(-1, 1, 2)", x.turn(-1, 1, 2), NOTHING);
        Due.is("inside(0, 1, 2, 4)", x.inside(0, 1, 2, 4), 1);
        Due.is("inside(0, 2, 1, 4)", x.inside(0, 2, 1, 4), 1);
        Due.is("inside(0, 1, 2, 3)", x.inside(0, 1, 2, 3), 0);
        Due.is("inside(0, 1, 2, 5)", x.inside(0, 1, 2, 5), -1);
        Due.is("inside(2, 1, 0, 5)", x.inside(2, 1, 0, 5), -1);
        Due.is("inside(0, 1, 6, 5), on a line", x.inside(0, 1, 6, 5), NOTHING);
        Due.is("inside(0, 1, 2, 0)", x.inside(0, 1, 2, 0), NOTHING);
        Due.is("inside(0, 1, 2, 1)", x.inside(0, 1, 2, 1), NOTHING);
        Due.is("inside(0, 1, 2, 2)", x.inside(0, 1, 2, 2), NOTHING);
        Due.is("inside(7, 1, 2, 3)", x.inside(7, 1, 2, 3), NOTHING);
        Due.is("inside(0, 0, 2, 3)", x.inside(0, 0, 2, 3), NOTHING);
        Due.is("inside(0, 1, 2, 7)", x.inside(0, 1, 2, 7), NOTHING);
        Due.is("inside(0, 1, 2, 8)", x.inside(0, 1, 2, 8), NOTHING);
        AngleNet same = Due.told("posts 4;place 0 0 0;place 1 99 0;place 2 0 99;place 3 0 0;");
        Due.is("at the same place: on it", same.inside(0, 1, 2, 3), 0);
        Due.is("at the same place: on a line", same.inside(0, 3, 2, 1), NOTHING);
    }

    private static void may() {
        Due.about("20 may, 22 illegal");
        AngleNet x = Due.told(KITE);
        Due.is("may(0, 2)", x.may(0, 2), 3);
        Due.is("may(2, 0)", x.may(2, 0), 3);
        Due.is("may(0, 1), a RIM", x.may(0, 1), 0);
        Due.is("may(1, 3)", x.may(1, 3), -2);
        Due.is("may(0, 0)", x.may(0, 0), -2);
        Due.is("may(0, 4)", x.may(0, 4), -2);
        Due.is("illegal()", x.illegal(), NONE);
        x.flip(0, 2);
        Due.is("may(1, 3)", x.may(1, 3), 7);
        Due.is("illegal()", x.illegal(), 13);
        Due.is("no places", Due.told(SQUARE).may(0, 2), 1);
        // The one without a place would make it KEEN, if no place were one just below 0.
        for (int p = 0; p < 4; p++) {
            String three = "place " + (p + 1) % 4 + " 10 0;place " + (p + 2) % 4 + " 8 8;place " + (p + 3) % 4 + " 0 10;";
            Due.is("KEEN wants all four", Due.told("posts 4;third 0 1 2;third 0 2 3;" + three).may(0, 2), 1);
            Due.is("KEEN", Due.told("posts 4;third 0 1 2;third 0 2 3;place " + p + " 0 0;" + three).may(0, 2) & 3, 3);
        }
        Due.is("its other SIDE is one", Due.told(TETRA).may(0, 1), 0);
        AngleNet dart = Due.told("posts 4;third 0 1 2;third 0 2 3;place 0 0 0;place 1 10 0;place 2 2 2;place 3 0 10;");
        Due.is("not KEEN", dart.may(0, 2), 1);
        AngleNet flat = Due.told("posts 4;third 0 1 2;third 0 2 3;place 0 0 0;place 1 10 0;place 2 5 5;place 3 0 10;");
        Due.is("not KEEN on a line", flat.may(0, 2), 1);
        AngleNet square = Due.told("posts 4;third 0 1 2;third 0 2 3;place 0 0 0;place 1 9 0;place 2 9 9;place 3 0 9;");
        Due.is("on the circle is legal", square.may(0, 2), 3);
        Due.is("on the circle is legal", square.illegal(), NONE);
    }

    private static void flipping() {
        Due.about("21 flip");
        AngleNet x = Due.told("posts 4;third 2 0 1 sum 90;third 3 2 0 sum 91;weight 0 2 50;weight 0 1 7;");
        Due.is("flip(2, 0)", x.flip(2, 0), 13);
        int[] due = {0, 1, 3, 180, 2, 1, 3, 180};
        for (int i = 0; i < 8; i++) {
            Due.is("third(" + i / 4 + ", " + i % 4 + ")", x.third(i / 4, i % 4), due[i]);
        }
        Due.is("side(0, 2)", x.side(0, 2), 0);
        Due.is("side(1, 3)", x.side(1, 3), 2);
        Due.is("side(0, 1)", x.side(0, 1), 1);
        Due.is("cut(2)", x.cut(2), 7);
        Due.is("weigh(1, 3, 9)", x.weigh(1, 3, 9), 0);
        Due.is("flip(1, 3)", x.flip(1, 3), 2);
        Due.is("a weight is gone with its SIDE", x.weigh(0, 2, 1), 0);
        Due.is("third(0, 0)", x.third(0, 0), 1);
        Due.is("third(1, 0)", x.third(1, 0), 3);
        Due.is("flip(0, 1)", x.flip(0, 1), -5);
        Due.is("flip(1, 3)", x.flip(1, 3), -2);
        Due.is("flip(0, 0)", x.flip(0, 0), -2);
        Due.is("flip(0, 9)", x.flip(0, 9), -2);
        Due.is("on a tetrahedron", Due.told(TETRA).flip(0, 1), -5);
        AngleNet many = Due.told(SQUARE);
        for (int i = 0; i < 99; i++) {
            Due.is("flip", i % 2 == 0 ? many.flip(0, 2) : many.flip(3, 1), i % 2 == 0 ? 13 : 2);
        }
        Due.is("99 are done", many.flip(1, 3), -3);
        Due.is("it may not be", many.flip(0, 1), -5);
        Due.is("flips, 99 are done", many.flips(5, 40), 0);
        Due.is("undo()", many.undo(), 1);
        Due.is("flip(0, 2)", many.flip(0, 2), 13);
    }

    private static void undoing() {
        Due.about("24 undo, 25 redo");
        AngleNet x = Due.told("posts 4;third 2 0 1 sum 90;third 3 2 0 sum 91;weight 0 2 50;");
        x.flip(0, 2);
        x.weigh(1, 3, 33);
        Due.is("undo()", x.undo(), 1);
        Due.is("third(0, 0)", x.third(0, 0), 2);
        Due.is("third(0, 3)", x.third(0, 3), 90);
        Due.is("third(1, 1)", x.third(1, 1), 2);
        Due.is("third(1, 3)", x.third(1, 3), 91);
        Due.is("cut(1)", x.cut(1), 50);
        Due.is("cut(2)", x.cut(2), 0);
        Due.is("undo()", x.undo(), 0);
        Due.is("weigh(0, 2, 60)", x.weigh(0, 2, 60), 50);
        Due.is("redo()", x.redo(), 1);
        Due.is("redo()", x.redo(), 0);
        Due.is("side(1, 3)", x.side(1, 3), 2);
        Due.is("the new one has 0", x.cut(2), 0);
        Due.is("undo()", x.undo(), 1);
        Due.is("the weight that it had", x.cut(1), 60);
        Due.is("count(5)", x.count(5), 0);
        Due.is("count(6)", x.count(6), 1);
        Due.is("flip(0, 1)", x.flip(0, 1), -5);
        Due.is("count(6), none was done", x.count(6), 1);
        x.flip(0, 2);
        Due.is("count(6), one was done", x.count(6), 0);
        Due.is("redo()", x.redo(), 0);
        x.flip(1, 3);
        x.undo();
        x.undo();
        Due.is("count(6)", x.count(6), 2);
        x.redo();
        Due.is("the first again", x.side(1, 3), 2);
        x.redo();
        Due.is("the second again", x.side(1, 3), 0);
    }

    private static void legal() {
        Due.about("23 legal");
        AngleNet x = Due.told(KITE);
        Due.is("legal(5)", x.legal(5), 0);
        x.flip(0, 2);
        Due.is("legal(5)", x.legal(5), 1);
        Due.is("count(5)", x.count(5), 2);
        Due.is("side(0, 2)", x.side(0, 2), 2);
        x.undo();
        Due.is("illegal()", x.illegal(), 13);
        Due.is("legal(1)", x.legal(1), 1);
        Due.is("legal(0)", x.legal(0), -2);
        Due.is("legal(100)", x.legal(100), -2);
        Due.is("legal(99)", x.legal(99), 0);
        Due.is("no NET", new AngleNet().legal(1), -2);
        AngleNet full = Due.told(KITE);
        for (int i = 0; i < 97; i++) {
            full.flip(i % 2 == 0 ? 0 : 1, i % 2 == 0 ? 2 : 3);
        }
        Due.is("97 are done", full.legal(99), 1);
        full.flip(0, 2);
        Due.is("99 are done", full.count(5), 99);
        Due.is("illegal()", full.illegal(), 13);
        Due.is("none, when 99 are done", full.legal(99), 0);
        full.undo();
        Due.is("undone ones stay, if none was", full.legal(99), 0);
        Due.is("count(6)", full.count(6), 1);
        AngleNet fan = Due.told("posts 6;third 0 1 2;third 0 2 3;third 0 3 4;third 0 4 5;"
                + "place 0 0 40;place 1 10 10;place 2 40 0;place 3 70 2;place 4 90 20;place 5 95 50;");
        int all = fan.legal(99);
        Due.holds("some were", all > 1);
        Due.is("none is left", fan.illegal(), NONE);
        for (int i = 0; i < all; i++) {
            fan.undo();
        }
        Due.is("n at most", fan.legal(1), 1);
        Due.holds("one is left", fan.illegal() != NONE);
    }

    private static void drawn() {
        Due.about("26 flips, VII");
        for (int n = 1; n <= 40; n++) {
            drawn(n, 1234567 * n);
        }
        AngleNet x = Due.told(octa());
        Due.is("flips(-1, 1)", x.flips(-1, 1), -2);
        Due.is("flips(2000000001, 1)", x.flips(2000000001, 1), -2);
        Due.holds("flips(2000000000, 1)", x.flips(2000000000, 1) >= 0);
        Due.is("flips(0, 0)", x.flips(0, 0), -2);
        Due.is("flips(0, 41)", x.flips(0, 41), -2);
        Due.is("no SIDES", Due.told("posts 3;").flips(0, 1), -2);
        Due.is("none may be", Due.told(TETRA).flips(0, 40), 0);
    }

    private static void drawn(int n, int seed) {
        AngleNet x = Due.told(octa());
        AngleNet y = Due.told(octa());
        long state = seed;
        int made = 0;
        for (int i = 0; i < n; i++) {
            state = (1103515245L * state + 12345L) % 2147483648L;
            int side = y.sides((int) (state / 65536 % 12));
            made += y.flip(side / 10, side % 10) >= 0 ? 1 : 0;
        }
        Due.is("flips(" + seed + ", " + n + ")", x.flips(seed, n), made);
        Due.is("count(5)", x.count(5), made);
        for (int i = 0; i < 24; i++) {
            Due.is("third", x.third(i / 3, i % 3), y.third(i / 3, i % 3));
        }
    }

    private static void weights() {
        Due.about("27 weigh, 30 cut");
        AngleNet x = Due.told(SQUARE + "weight 0 2 50;weight 2 0 60;weight 1 2 5;");
        Due.is("weigh(0, 2, 360)", x.weigh(0, 2, 360), 60);
        Due.is("weigh(2, 0, 10)", x.weigh(2, 0, 10), 360);
        Due.is("weigh(0, 1, 3)", x.weigh(0, 1, 3), 0);
        Due.is("weigh(0, 1, 361)", x.weigh(0, 1, 361), -2);
        Due.is("weigh(0, 1, -1)", x.weigh(0, 1, -1), -2);
        Due.is("weigh(1, 3, 1)", x.weigh(1, 3, 1), -2);
        Due.is("weigh(1, 1, 1)", x.weigh(1, 1, 1), -2);
        Due.is("cut(1)", x.cut(1), 13);
        Due.is("cut(4)", x.cut(4), 15);
        Due.is("cut(5)", x.cut(5), 8);
        Due.is("cut(26)", x.cut(26), 8);
        Due.is("cut(0)", x.cut(0), 0);
        Due.is("cut(31)", x.cut(31), 0);
        Due.is("cut(32)", x.cut(32), -2);
        Due.is("cut(-1)", x.cut(-1), -2);
    }

    private static void inscribed() {
        Due.about("28 inscribed, 29 hinders");
        AngleNet x = Due.told(TETRA_EVEN);
        Due.is("inscribed()", x.inscribed(), 0);
        for (int what = 0; what < 3; what++) {
            Due.is("hinders(" + what + ")", x.hinders(what), NONE);
        }
        Due.is("hinders(3)", x.hinders(3), -2);
        Due.is("hinders(-1)", x.hinders(-1), -2);
        x.weigh(1, 2, 119);
        Due.is("a POST", x.inscribed(), 3);
        Due.is("hinders(1)", x.hinders(1), 1);
        Due.is("hinders(0)", x.hinders(0), NONE);
        x.weigh(1, 2, 180);
        Due.is("a weight", x.inscribed(), 2);
        Due.is("hinders(0)", x.hinders(0), 12);
        Due.is("hinders(1)", x.hinders(1), 1);
        x.weigh(1, 2, 179);
        Due.is("a weight no more", x.inscribed(), 3);
        x.weigh(2, 3, 0);
        Due.is("a weight", x.hinders(0), 23);
        AngleNet long1 = Due.told(octa() + "weight 1 2 170;weight 3 4 170;weight 2 3 10;weight 1 4 10;"
                + "weight 0 1 90;weight 0 2 90;weight 0 3 90;weight 0 4 90;weight 5 1 90;weight 5 2 90;weight 5 3 90;weight 5 4 90;");
        Due.is("all is well", long1.inscribed(), 0);
        AngleNet set = Due.told(octa() + "weight 0 1 5;weight 0 2 175;weight 0 3 175;weight 0 4 5;"
                + "weight 5 1 175;weight 5 2 5;weight 5 3 5;weight 5 4 175;weight 1 2 5;weight 2 3 175;weight 3 4 5;weight 1 4 175;");
        Due.is("another set", set.inscribed(), 4);
        Due.is("its others are the same in number: the lesser", set.hinders(2), 13);
        Due.is("cut", set.cut(13), 30);
        AngleNet edges = Due.told(TETRA + "weight 0 1 179;weight 2 3 179;weight 0 2 180;weight 1 3 180;weight 0 3 1;weight 1 2 1;");
        Due.is("180 is too much", edges.hinders(0), 2);
        Due.is("all POSTS are well", edges.hinders(1), NONE);
        edges.weigh(0, 2, 179);
        edges.weigh(1, 3, 179);
        Due.is("1 and 179 are weights", edges.hinders(0), NONE);
        edges.weigh(0, 3, 2);
        edges.weigh(1, 2, 2);
        Due.is("a flat one", edges.inscribed(), 0);
        edges.weigh(0, 3, 0);
        Due.is("0 is no weight", edges.hinders(0), 3);
        AngleNet just = Due.told(octa());
        int[][] sides = {{0, 1, 20}, {0, 2, 160}, {0, 3, 160}, {0, 4, 20}, {5, 1, 160}, {5, 2, 20}, {5, 3, 20}, {5, 4, 160},
            {1, 2, 20}, {2, 3, 160}, {3, 4, 20}, {1, 4, 160}};
        for (int[] s : sides) {
            just.weigh(s[0], s[1], s[2]);
        }
        Due.is("another set", just.inscribed(), 4);
        Due.is("another set", just.hinders(2), 13);
        Due.is("no such surface", Due.told(SQUARE).inscribed(), 1);
        Due.is("no such surface", Due.told(SQUARE).hinders(0), NONE);
        Due.is("no such surface", Due.told(torus()).inscribed(), 1);
        Due.is("no such surface", Due.told("posts 3;").inscribed(), 1);
        Due.is("no NET", new AngleNet().hinders(0), -2);
        Due.is("no NET", new AngleNet().inscribed(), -2);
        AngleNet apart = Due.told(TETRA_EVEN.replace("posts 4", "posts 5"));
        Due.is("a POST that no THIRD has", apart.inscribed(), 3);
        Due.is("a POST that no THIRD has", apart.hinders(1), 4);
    }

    private static void trees() {
        Due.about("31 trees");
        Due.is("a third", Due.told("posts 3;third 0 1 2;").trees(), 3);
        Due.is("a square", Due.told(SQUARE).trees(), 8);
        Due.is("a tetrahedron", Due.told(TETRA).trees(), 16);
        Due.is("an octahedron", Due.told(octa()).trees(), 384);
        Due.is("a torus of 7", Due.told(torus()).trees(), 16807);
        Due.is("two parts", Due.told("posts 6;third 0 1 2;third 3 4 5;").trees(), 0);
        Due.is("no thirds", Due.told("posts 6;").trees(), 0);
    }

    private static void flow() {
        Due.about("32 height, 33 flow, 34 through");
        AngleNet x = Due.told(TETRA);
        Due.is("height(0, 1, 0)", x.height(0, 1, 0), 8);
        Due.is("height(0, 1, 1)", x.height(0, 1, 1), 0);
        Due.is("height(0, 1, 2)", x.height(0, 1, 2), 4);
        Due.is("height(0, 1, 4)", x.height(0, 1, 4), -2);
        Due.is("height(0, 0, 1)", x.height(0, 0, 1), -2);
        Due.is("height(-1, 0, 1)", x.height(-1, 0, 1), -2);
        Due.is("height(0, 4, 1)", x.height(0, 4, 1), -2);
        Due.is("flow(0, 1, 0)", x.flow(0, 1, 0), 16);
        Due.is("flow(0, 1, 1)", x.flow(0, 1, 1), 4);
        Due.is("flow(0, 1, 2)", x.flow(0, 1, 2), 1);
        Due.is("flow(0, 1, 3)", x.flow(0, 1, 3), -2);
        Due.is("flow(0, 1, -1)", x.flow(0, 1, -1), -2);
        Due.is("flow(1, 1, 0)", x.flow(1, 1, 0), -2);
        Due.is("through(0, 1, 0, 1)", x.through(0, 1, 0, 1), 2);
        Due.is("through(0, 1, 1, 0)", x.through(0, 1, 1, 0), -2);
        Due.is("through(0, 1, 0, 3)", x.through(0, 1, 0, 3), 1);
        Due.is("through(0, 1, 2, 3)", x.through(0, 1, 2, 3), 0);
        Due.is("through(0, 0, 2, 3)", x.through(0, 0, 2, 3), NOTHING);
        Due.is("through(0, 1, 2, 2)", x.through(0, 1, 2, 2), NOTHING);
        Due.is("through alone", Due.told(TETRA).through(0, 1, 0, 1), 2);
        AngleNet apart = Due.told("posts 8;third 0 1 2;third 3 4 5;third 4 5 6;");
        Due.is("of the other PART", apart.height(0, 1, 0), 2);
        Due.is("SIDES of the other PART, too", apart.flow(0, 1, 2), 5);
        Due.is("SIDES of the other PART, too", apart.flow(3, 6, 2), 4);
        Due.is("a SIDE of another PART", apart.through(3, 6, 0, 1), NOTHING);
        Due.is("of its PART", apart.height(3, 6, 3), 8);
        Due.is("of its PART", apart.flow(3, 6, 0), 8);
        Due.is("of another PART", apart.height(3, 6, 0), -2);
        Due.is("of two PARTS", apart.flow(0, 6, 0), -2);
        Due.is("a POST that no THIRD has", apart.flow(0, 7, 0), -2);
        Due.is("a POST that no THIRD has", apart.flow(7, 0, 0), -2);
        Due.is("a POST that no THIRD has", apart.height(3, 6, 7), -2);
        Due.is("no such SIDE", apart.through(3, 6, 3, 6), NOTHING);
        Due.is("no NET", new AngleNet().through(0, 1, 0, 1), NOTHING);
    }

    private static void fourth() {
        Due.about("35 fourth, 36 whole");
        AngleNet x = Due.told("posts 6;third 0 1 2;third 1 2 3;third 3 4 5;third 2 3 4;"
                + "circle 0 2;circle 1 2;circle 2 3;circle 3 15;circle 4 1;");
        Due.is("fourth(0, 0)", x.fourth(0, 0), 15);
        Due.is("fourth(0, 1)", x.fourth(0, 1), -1);
        Due.is("fourth(1, 0)", x.fourth(1, 0), 38);
        Due.is("fourth(1, 1)", x.fourth(1, 1), 2);
        Due.is("one has no circle", x.fourth(2, 0), NOTHING);
        Due.is("no whole number", x.fourth(3, 0), NOTHING);
        Due.is("fourth(0, 2)", x.fourth(0, 2), NOTHING);
        Due.is("fourth(0, -1)", x.fourth(0, -1), NOTHING);
        Due.is("fourth(4, 0)", x.fourth(4, 0), NOTHING);
        Due.is("fourth(-1, 0)", x.fourth(-1, 0), NOTHING);
        Due.is("whole()", x.whole(), 3);
        for (int p = 0; p < 3; p++) {
            AngleNet lacks = Due.told("posts 3;third 0 1 2;circle " + p + " 2;circle " + (p + 1) % 3 + " 2;");
            Due.is("one has no circle", lacks.fourth(0, 0), NOTHING);
            Due.is("one has no circle", lacks.whole(), 0);
        }
        Due.is("no NET", new AngleNet().whole(), -2);
        AngleNet great = Due.told("posts 3;third 0 1 2;circle 0 9999;circle 1 9999;circle 2 0;");
        Due.is("great", great.fourth(0, 0), 4 * 9999);
        Due.is("great", great.fourth(0, 1), 0);
        AngleNet greatest = Due.told("posts 3;third 0 1 2;circle 0 9999;circle 1 9999;circle 2 9999;");
        Due.is("greatest", greatest.fourth(0, 0), NOTHING);
        Due.is("lines", Due.told("posts 3;third 0 1 2;circle 0 0;circle 1 0;circle 2 0;").fourth(0, 1), 0);
        Due.is("no circles", Due.told(TETRA).whole(), 0);
    }

    private static void judge() {
        Due.about("37 judge");
        AngleNet x = Due.told(SQUARE);
        Due.is("nothing", x.judge(0), -6);
        Due.is("judge(4)", x.judge(4), -2);
        Due.is("judge(-1)", x.judge(-1), -2);
        x.row(0, 0, 0);
        Due.is("an empty row", x.judge(0), 0);
        x.row(0, 0, 4);
        x.write(0, 0, 2);
        x.write(0, 1, 31);
        x.write(0, 2, 20);
        x.write(0, 3, 13);
        Due.is("all", x.judge(0), 4);
        Due.is("in thought", x.count(5), 0);
        Due.is("in thought", x.side(0, 2), 2);
        x.write(0, 2, 13);
        Due.is("no SIDE any more", x.judge(0), 2);
        x.write(0, 0, 1);
        Due.is("a RIM", x.judge(0), 0);
        x.row(0, 3, 1);
        long[] strange = {-2, -1, 0, 22, 102, 4, 4294967298L, Long.MIN_VALUE, Long.MAX_VALUE};
        for (long v : strange) {
            x.write(0, 0, v);
            Due.is("judge of " + v, x.judge(0), 0);
        }
        for (int i = 0; i < 99; i++) {
            x.flip(i % 2 == 0 ? 0 : 1, i % 2 == 0 ? 2 : 3);
        }
        x.write(0, 0, 13);
        Due.is("thought has no end at 99", x.judge(0), 1);
        Due.is("what is done stays", x.count(5), 99);
    }

    private static void put(AngleNet x, int slot, long... numbers) {
        x.row(slot, 3, numbers.length);
        for (int i = 0; i < numbers.length; i++) {
            x.write(slot, i, numbers[i]);
        }
    }

    private static void laid() {
        Due.about("38 laid");
        AngleNet x = Due.told("posts 4;third 0 1 2;third 0 2 3;angle 0 90;angle 1 90;angle 3 90;corner 10 to 120;");
        Due.is("nothing", x.laid(1), -6);
        Due.is("laid(4)", x.laid(4), -2);
        Due.is("laid(-1)", x.laid(-1), -2);
        put(x, 1, 45, 90, 45, 45, 45, 90);
        Due.is("laid so", x.laid(1), 0);
        put(x, 1, 45, 90, 45, 45, 45);
        Due.is("not so many", x.laid(1), -7);
        put(x, 1, 45, 90, 45, 45, 45, 90, 0);
        Due.is("more", x.laid(1), -7);
        put(x, 1, 45, 90, 45, 45, 45, 91);
        Due.is("a third", x.laid(1), 101);
        put(x, 1, 45, 89, 46, 45, 45, 90);
        Due.is("a post", x.laid(1), 201);
        put(x, 1, 44, 90, 46, 45, 45, 90);
        Due.is("a post", x.laid(1), 200);
        put(x, 1, 85, 90, 5, 5, 85, 90);
        Due.is("a corner", x.laid(1), 302);
        put(x, 1, 5, 90, 85, 85, 5, 90);
        Due.is("a corner", x.laid(1), 300);
        put(x, 1, 1000000000000L, -1000000000000L, 180, 45, 45, 90);
        Due.is("not beyond", x.laid(1), 200);
        put(x, 1, 1000000000001L, -1000000000001L, 180, 45, 45, 90);
        Due.is("beyond", x.laid(1), 100);
        put(x, 1, Long.MIN_VALUE, Long.MIN_VALUE, 180, 45, 45, 90);
        Due.is("beyond, though it comes round", x.laid(1), 100);
        AngleNet none = Due.told("posts 3;angle 1 5;");
        put(none, 0);
        Due.is("an angle at no third", none.laid(0), 201);
        none.tells(1, 0);
        Due.is("nothing to lay", none.laid(0), 0);
        AngleNet above = Due.told("posts 3;third 0 1 2;corner 0 to 100;");
        put(above, 0, 100, 80, 0);
        Due.is("at the bounds", above.laid(0), 0);
        put(above, 0, 79, 101, 0);
        Due.is("above", above.laid(0), 301);
        put(above, 0, 100, 81, -1);
        Due.is("below", above.laid(0), 302);
    }

    private static void count() {
        Due.about("39 count");
        AngleNet x = Due.told(SQUARE + "corner 2 to 99;place 1 0 0;place 3 1 1;");
        Due.feed(x, "posts");
        x.flip(0, 2);
        x.flip(1, 3);
        x.flip(0, 2);
        x.undo();
        x.undo();
        x.row(2, 1, 0);
        x.row(3, 1, 4);
        int[] due = {5, 2, 5, 6, 5, 1, 2, 2, 99, 10, 2};
        for (int what = 0; what <= 10; what++) {
            Due.is("count(" + what + ")", x.count(what), due[what]);
        }
        Due.is("count(11)", x.count(11), NONE);
        Due.is("count(-1)", x.count(-1), NONE);
        Due.is("the first POST, too", Due.told("posts 3;place 0 0 0;").count(9), 1);
        AngleNet plain = Due.told("posts 3;");
        Due.is("count(7)", plain.count(7), 1);
        Due.is("count(8)", plain.count(8), 360);
    }

    private static void images() {
        Due.about("40 keep, 41 back");
        AngleNet x = Due.told(SQUARE + "weight 0 2 9;angle 1 7;");
        Due.is("back(0)", x.back(0), -6);
        Due.is("back(3)", x.back(3), -2);
        Due.is("back(-1)", x.back(-1), -2);
        Due.is("keep(3)", x.keep(3), -2);
        Due.is("keep(-1)", x.keep(-1), -2);
        x.flip(0, 2);
        x.flip(1, 3);
        x.undo();
        Due.is("keep(2)", x.keep(2), 0);
        x.undo();
        x.weigh(0, 2, 77);
        x.tells(1, 0);
        x.row(0, 0, 1);
        Due.feed(x, "posts 3;third");
        Due.is("keep(0)", x.keep(0), 0);
        Due.is("back(2)", x.back(2), 0);
        Due.is("count(5)", x.count(5), 1);
        Due.is("count(6)", x.count(6), 1);
        Due.is("side(1, 3)", x.side(1, 3), 2);
        Due.is("post(1, 0)", x.post(1, 0), 7);
        Due.is("the TAPE stays", x.count(4), 13);
        Due.is("SLOTS stay", x.count(10), 1);
        Due.is("redo()", x.redo(), 1);
        Due.is("undo()", x.undo(), 1);
        Due.is("undo()", x.undo(), 1);
        Due.is("cut(1)", x.cut(1), 9);
        Due.is("net()", x.net(), -4);
        Due.is("back(0)", x.back(0), 0);
        Due.is("the FAULT stays", x.fault(0), 1);
        Due.is("cut(1)", x.cut(1), 77);
        Due.is("count(6)", x.count(6), 2);
        Due.is("back(1)", x.back(1), -6);
        x.end(0);
        x.net();
        Due.is("no NET", x.can(), -2);
        x.keep(1);
        Due.is("back(0)", x.back(0), 0);
        Due.is("count(0)", x.count(0), 5);
        Due.is("an image is not changed by what came", x.back(2), 0);
        Due.is("count(5)", x.count(5), 1);
        AngleNet y = Due.told("posts 5;third 0 1 2;third 0 2 3;third 0 3 4;weight 0 2 8;");
        y.flip(0, 2);
        y.keep(0);
        y.undo();
        y.flip(0, 3);
        y.back(0);
        y.undo();
        Due.is("what was done is kept", y.side(0, 2), 2);
        Due.is("what was done is kept", y.side(0, 3), 2);
        Due.is("what was done is kept", y.cut(1), 8);
        Due.is("back(1), no NET", x.back(1), 0);
        Due.is("count(0)", x.count(0), 0);
    }

    private static void rows() {
        Due.about("42 row, 43 write");
        AngleNet x = Due.told("posts 3;third 0 1 2 sum 3;corner 0 to 360;");
        Due.is("row(4, 0, 1)", x.row(4, 0, 1), -2);
        Due.is("row(-1, 0, 1)", x.row(-1, 0, 1), -2);
        Due.is("row(0, 4, 1)", x.row(0, 4, 1), -2);
        Due.is("row(0, -1, 1)", x.row(0, -1, 1), -2);
        Due.is("row(0, 0, 61)", x.row(0, 0, 61), -2);
        Due.is("row(0, 0, -1)", x.row(0, 0, -1), -3);
        Due.is("row(4, 0, -1)", x.row(4, 0, -1), -2);
        Due.is("count(10)", x.count(10), 0);
        Due.is("row(3, 3, 60)", x.row(3, 3, 60), 0);
        Due.is("write(3, 59, 1)", x.write(3, 59, 1), 0);
        Due.is("write(3, 60, 1)", x.write(3, 60, 1), -7);
        Due.is("write(3, -1, 1)", x.write(3, -1, 1), -7);
        Due.is("write(4, 0, 1)", x.write(4, 0, 1), -2);
        Due.is("write(-1, 0, 1)", x.write(-1, 0, 1), -2);
        Due.is("write(0, 0, 1)", x.write(0, 0, 1), -6);
        long[] cut = {256 + 3, 65536 + 3, 4294967296L + 3, 3};
        for (int width = 0; width < 4; width++) {
            x.row(0, width, 3);
            Due.is("all are 0", x.laid(0), 100);
            x.write(0, 1, cut[width]);
            Due.is("cut to WIDTH " + width, x.laid(0), 0);
            Due.is("a row below 0", x.row(0, width, -5), -3);
            Due.is("the SLOT stays", x.laid(0), 0);
            if (width > 0) {
                x.write(0, 1, cut[width - 1]);
                Due.is("not cut to WIDTH " + width, x.laid(0), 100);
            }
        }
        x.row(0, 0, 3);
        x.write(0, 0, 131);
        x.write(0, 1, 125);
        x.write(0, 2, 3);
        Due.is("131 in a byte is -125", x.laid(0), 300);
        x.row(1, 0, 0);
        Due.is("no such number", x.write(1, 0, 0), -7);
    }

    private static void paste() {
        Due.about("44 paste");
        AngleNet x = Due.told(SQUARE);
        x.row(0, 3, 6);
        x.row(1, 3, 4);
        x.row(2, 2, 6);
        Due.is("one has nothing", x.paste(0, 0, 3, 0, 1), -6);
        Due.is("one has nothing", x.paste(3, 0, 0, 0, 1), -6);
        Due.is("no such SLOT", x.paste(4, 0, 0, 0, 1), -2);
        Due.is("no such SLOT", x.paste(0, 0, -1, 0, 1), -2);
        Due.is("no such SLOT, one has nothing", x.paste(3, 0, 4, 0, 1), -2);
        Due.is("not of one WIDTH", x.paste(0, 0, 2, 0, 1), -8);
        Due.is("not of one WIDTH, beyond", x.paste(0, 9, 2, 0, -1), -8);
        int[][] beyond = {{0, 0, 5}, {3, 0, 4}, {0, 3, 2}, {-1, 0, 1}, {0, -1, 1}, {0, 0, -1},
            {Integer.MAX_VALUE, 0, 1}, {0, Integer.MAX_VALUE, 1}, {1, 1, Integer.MAX_VALUE}, {7, 0, 0}, {0, 5, 0}};
        for (int[] b : beyond) {
            Due.is("beyond", x.paste(0, b[0], 1, b[1], b[2]), -7);
        }
        Due.is("none, at the ends", x.paste(0, 6, 1, 4, 0), 0);
        put(x, 0, 45, 90, 45, 45, 45, 90);
        put(x, 1, 1, 2, 3, 4, 5, 6);
        Due.is("all", x.paste(0, 0, 1, 0, 6), 0);
        Due.is("as they were", x.laid(1), 0);
        put(x, 0, 7, 30, 60, 90, 10, 20);
        Due.is("its own, on", x.paste(0, 1, 0, 3, 3), 0);
        Due.is("laid(0)", x.laid(0), 100);
        x.write(0, 0, 90);
        Due.is("as they were: 90 30 60 30 60 90", x.laid(0), 0);
        put(x, 0, 1, 2, 30, 60, 90, 180);
        Due.is("its own, back", x.paste(0, 2, 0, 0, 4), 0);
        x.write(0, 3, 0);
        x.write(0, 4, 0);
        Due.is("as they were, not twice", x.laid(0), 300 + 3);
    }
}
