import java.util.Arrays;

/** The promises 37 to 44, sentence by sentence: each boundary case that they name, and each call that they refuse. */
public final class EdgeRowTest {
    private static final int NONE = Due.NONE;
    private static final int FAR = Integer.MAX_VALUE;
    private static final int LOW = Integer.MIN_VALUE;
    private static final int[] NO_SLOTS = {-1, 4, 5, FAR, LOW};
    private static final String SQUARE = "posts 4;third 0 1 2;third 0 2 3;";
    private static final String RICH = "posts 5;third 0 1 2;third 0 2 3;third 0 3 4;angle 0 90;angle 2 70;corner 5 to 170;weight 0 2 44;weight 1 2 9;"
            + "place 0 0 0;place 1 9 0;place 2 9 9;place 3 1 9;circle 0 3;circle 3 8;";

    private EdgeRowTest() {
    }

    public static void main(String[] args) throws Exception {
        Sentences.read();
        judge();
        laid();
        count();
        keep();
        back();
        row();
        write();
        paste();
        Sentences.closePromises(37, 44);
        Due.end();
    }

    /**
     * That a SLOT's row begins with these numbers. The NET must have one THIRD with the sum of 180: laid() tells by it
     * whether number i, in SLOT 3 with two others that are known, is the one that is due.
     */
    private static void reads(AngleNet x, int slot, int width, int... due) {
        for (int i = 0; i < due.length; i++) {
            x.row(3, width, 3);
            Due.is("paste(" + slot + ", " + i + ", 3, 0, 1)", x.paste(slot, i, 3, 0, 1), 0);
            x.write(3, 1, 90);
            x.write(3, 2, 90 - due[i]);
            Due.holds("number " + i + " of SLOT " + slot + " is " + due[i], x.laid(3) != 100);
        }
    }

    private static AngleNet oneThird() {
        return Due.told("posts 3;third 0 1 2;corner 0 to 360;");
    }

    // ---- 37, 38

    private static void judge() {
        Sentences.section("Promise 37: judge");
        Sentences.says("A SLOT's row as FLIPS in thought, 10 times one POST and the other: how many ahead of the first that may not be.");
        AngleNet x = Due.told(SQUARE + "weight 0 2 9;");
        x.flip(0, 2);
        x.flip(1, 3);
        x.undo();
        String was = Due.picture(x);
        Due.fill(x, 0, 0, 13, 20, 31, 2);
        Due.is("all", x.judge(0), 4);
        Due.same("in thought", was, Due.picture(x));
        Due.fill(x, 0, 0, 13, 20, 20, 2);
        Due.is("no such SIDE any more", x.judge(0), 2);
        Due.fill(x, 0, 0, 13, 1);
        Due.is("a RIM", x.judge(0), 1);
        Due.fill(x, 0, 0, 1);
        Due.is("the first", x.judge(0), 0);
        x.row(0, 0, 0);
        Due.is("none", x.judge(0), 0);
        long[] strange = {-1, -13, 0, 11, 33, 14, 41, 113, 100, 256 + 13, LOW, FAR, Long.MIN_VALUE, Long.MAX_VALUE, 4294967296L + 13};
        for (long v : strange) {
            Due.fill(x, 1, 3, v);
            Due.is("judge of " + v, x.judge(1), 0);
        }
        Due.fill(x, 1, 0, 256 + 13);
        Due.is("cut to a byte it is 13", x.judge(1), 1);
        long[] sixty = new long[60];
        for (int i = 0; i < 60; i++) {
            sixty[i] = i % 2 == 0 ? 13 : 2;
        }
        Due.fill(x, 2, 3, sixty);
        Due.is("sixty", x.judge(2), 60);
        for (int i = x.count(5); i < 99; i++) {
            Due.holds("flip " + i, (i % 2 == 0 ? x.flip(0, 2) : x.flip(1, 3)) >= 0);
        }
        Due.is("99 are done, but not in thought", x.judge(2), 60);
        Due.is("what is done stays", x.count(5), 99);
        AngleNet far = Due.told("posts 10;third 0 8 9;third 8 9 1;");
        Due.fill(far, 0, 0, 98, 10, 89);
        Due.is("POSTS 9 and 8", far.judge(0), 3);

        Sentences.says("-2: there is no such SLOT, no NET; -6: it has nothing.");
        for (int slot : NO_SLOTS) {
            Due.is("judge(" + slot + ")", x.judge(slot), -2);
            Due.is("no NET, judge(" + slot + ")", new AngleNet().judge(slot), -2);
        }
        Due.is("it has nothing", x.judge(3), -6);
        Due.is("no NET, it has nothing", new AngleNet().judge(0), -2);
        AngleNet none = new AngleNet();
        none.row(0, 0, 1);
        Due.is("no NET", none.judge(0), -2);
        Due.is("no THIRDS", slotted("posts 3;", 1).judge(0), 0);
    }

    private static AngleNet slotted(String text, long... numbers) {
        AngleNet x = Due.told(text);
        Due.fill(x, 0, 3, numbers);
        return x;
    }

    private static void laid() {
        String two = SQUARE + "angle 0 90;angle 3 60;corner 10 to 150;";
        Sentences.section("Promise 38: laid");
        Sentences.says("A SLOT's row as CORNERS, three for each THIRD, as they stand: 0 they are LAID so;");
        Due.is("LAID", slotted(two, 30, 80, 70, 60, 60, 60).laid(0), 0);
        Due.is("at the bounds", slotted(two, 20, 10, 150, 70, 50, 60).laid(0), 0);
        Due.is("as they stand", slotted("posts 3;third 2 0 1;angle 2 9;", 9, 100, 71).laid(0), 0);
        Due.is("as they stand", slotted("posts 3;third 2 0 1;angle 2 9;", 100, 71, 9).laid(0), 202);
        Due.is("no THIRDS", slotted("posts 3;").laid(0), 0);
        long[] sixties = new long[54];
        Arrays.fill(sixties, 60);
        Due.is("ten POSTS, 18 THIRDS", slotted(Due.greatest(), sixties).laid(0), 0);
        for (int i = 0; i < 54; i++) {
            sixties[i] = 61;
            Due.is("each of 18 THIRDS", slotted(Due.greatest(), sixties).laid(0), 100 + i / 3);
            sixties[i] = 60;
        }
        for (int width = 0; width < 4; width++) {
            AngleNet x = Due.told(two);
            Due.fill(x, width, width, 30, 80, 70, 60, 60, 60);
            Due.is("any WIDTH", x.laid(width), 0);
        }

        Sentences.says("else, THIRDS first, 100 and the first THIRD whose sum is not so (none that has a number beyond 10 to the 12, either way, is),");
        Due.is("THIRD 0", slotted(two, 30, 80, 71, 60, 60, 61).laid(0), 100);
        Due.is("THIRD 1", slotted(two, 30, 80, 70, 60, 60, 59).laid(0), 101);
        Due.is("THIRDS first", slotted(two, 5, 5, 170, 60, 60, 59).laid(0), 101);
        long edge = 1000000000000L;
        Due.is("10 to the 12", slotted(two, edge, -edge, 180, 60, 60, 60).laid(0), 200);
        Due.is("10 to the 12", slotted(two, -edge, edge, 180, 60, 60, 60).laid(0), 200);
        Due.is("beyond", slotted(two, edge + 1, -edge, 179, 60, 60, 60).laid(0), 100);
        Due.is("beyond", slotted(two, 181, edge, -edge - 1, 60, 60, 60).laid(0), 100);
        Due.is("beyond", slotted(two, 30, 80, 70, 0, -edge - 1, edge + 181).laid(0), 101);
        Due.is("round and back", slotted(two, Long.MIN_VALUE, Long.MIN_VALUE, 180, 60, 60, 60).laid(0), 100);
        Due.is("round and back", slotted(two, Long.MAX_VALUE, Long.MAX_VALUE, 182, 60, 60, 60).laid(0), 100);

        Sentences.says("200 and the first POST whose angle is not,");
        Due.is("POST 0", slotted(two, 31, 80, 69, 60, 60, 60).laid(0), 200);
        Due.is("POST 0 and 3", slotted(two, 31, 80, 69, 60, 61, 59).laid(0), 200);
        Due.is("POST 3", slotted(two, 30, 80, 70, 60, 61, 59).laid(0), 203);
        Due.is("a POST ahead of CORNERS", slotted(two, 30, 5, 145, 60, 61, 59).laid(0), 203);
        Due.is("a POST that no THIRD has", slotted("posts 3;angle 2 1;").laid(0), 202);
        for (int p = 0; p < 10; p++) {
            AngleNet great = Due.told(Due.greatest());
            Due.fill(great, 1, 1, sixties);
            great.tells(p, great.post(p, 0) - 1);
            Due.is("each of ten POSTS", great.laid(1), 200 + p);
        }

        Sentences.says("300 and the first CORNER (3 times the THIRD and k) beyond its bounds, the least such number.");
        Due.is("below", slotted(two, 9, 80, 91, 81, 39, 60).laid(0), 300);
        Due.is("above", slotted(two, 19, 151, 10, 71, 49, 60).laid(0), 301);
        Due.is("below 0", slotted(two, 90, 100, -10, 0, 120, 60).laid(0), 302);
        Due.is("the second THIRD", slotted(two, 81, 60, 39, 9, 111, 60).laid(0), 303);
        Due.is("the second THIRD", slotted(two, 20, 80, 80, 70, 9, 101).laid(0), 203);
        Due.is("the last", slotted(SQUARE + "corner 10 to 150;", 60, 60, 60, 85, 86, 9).laid(0), 305);
        sixties[53] = 0;
        sixties[52] = 120;
        Due.is("the last of 54", slotted(Due.greatest().replaceAll("angle \\d+ \\d+;", ""), sixties).laid(0), 353);

        Sentences.says("-2 likewise; -6 likewise;");
        AngleNet x = Due.told(two);
        for (int slot : NO_SLOTS) {
            Due.is("laid(" + slot + ")", x.laid(slot), -2);
            Due.is("no NET, laid(" + slot + ")", new AngleNet().laid(slot), -2);
        }
        Due.is("it has nothing", x.laid(0), -6);
        Due.is("no NET, it has nothing", new AngleNet().laid(0), -2);
        AngleNet none = new AngleNet();
        none.row(0, 0, 0);
        Due.is("no NET", none.laid(0), -2);

        Sentences.says("-7: there are not so many (or more).");
        Due.is("one less", slotted(two, 30, 80, 70, 60, 60).laid(0), -7);
        Due.is("one more", slotted(two, 30, 80, 70, 60, 60, 60, 0).laid(0), -7);
        Due.is("none", slotted(two).laid(0), -7);
        Due.is("one, without THIRDS", slotted("posts 3;", 0).laid(0), -7);
        Due.is("60", slotted(two, new long[60]).laid(0), -7);
    }

    // ---- 39 to 41

    private static void count() {
        Sentences.section("Promise 39: count");
        Sentences.says("0 POSTS, 1 THIRDS, 2 SIDES, 3 LINES, 4 bytes of the TAPE, 5 FLIPS done, 6 undone that can be done again, 7, 8 the least, the most of a CORNER, 9 POSTS with places (bits), 10 SLOTS that have a row.");
        AngleNet x = Due.told("posts 10;third 0 1 2;third 0 2 3;corner 0 to 360;place 0 0 0;place 9 0 0;");
        x.flip(0, 2);
        x.flip(1, 3);
        x.flip(0, 2);
        x.undo();
        x.row(0, 0, 0);
        x.row(3, 3, 60);
        x.row(3, 0, 1);
        Due.feed(x, "abc");
        int[] due = {10, 2, 5, 6, 3, 2, 1, 0, 360, 513, 2};
        for (int what = 0; what <= 10; what++) {
            Due.is("count(" + what + ")", x.count(what), due[what]);
        }
        x.flip(0, 1);
        Due.is("a FLIP that may not be leaves them", x.count(6), 1);
        x.flip(0, 2);
        Due.is("none can be done again", x.count(6), 0);
        x.row(1, 0, 0);
        x.row(2, 0, 0);
        Due.is("all four SLOTS", x.count(10), 4);
        int[] plain = {3, 0, 0, 1, 0, 0, 0, 1, 360, 0, 0};
        int[] none = {0, 0, 0, 0, 0, 0, 0, 0, 0, 0, 0};
        AngleNet y = Due.told("posts 3;");
        for (int what = 0; what <= 10; what++) {
            Due.is("a plain NET, count(" + what + ")", y.count(what), plain[what]);
            Due.is("no NET, count(" + what + ")", new AngleNet().count(what), none[what]);
        }

        Sentences.says("NONE for others.");
        int[] others = {-1, 11, 12, FAR, LOW};
        for (int what : others) {
            Due.is("count(" + what + ")", x.count(what), NONE);
            Due.is("no NET, count(" + what + ")", new AngleNet().count(what), NONE);
        }
    }

    private static AngleNet busy() {
        AngleNet x = Due.told(RICH);
        x.flip(0, 2);
        x.flip(1, 3);
        x.flip(0, 2);
        x.undo();
        Due.is("done", x.count(5), 2);
        return x;
    }

    private static void change(AngleNet x) {
        x.undo();
        x.undo();
        x.weigh(0, 1, 99);
        x.tells(0, 0);
        x.tells(3, 77);
        x.flip(0, 3);
    }

    private static void keep() {
        Sentences.section("Promise 40: keep");
        Sentences.says("IMAGE k (0 .. 2) keeps all but the TAPE, the FAULT and SLOTS, what is done and undone too: 0.");
        for (int k = 0; k < 3; k++) {
            AngleNet x = busy();
            x.row(0, 0, 1);
            Due.feed(x, "abc");
            String was = Due.picture(x);
            Due.is("keep(" + k + ")", x.keep(k), 0);
            Due.same("nothing happens", was, Due.picture(x));
            change(x);
            x.row(1, 0, 1);
            x.net();
            x.end(2);
            Due.is("back(" + k + ")", x.back(k), 0);
            Due.same("all is as it was", was, Due.picture(x));
            Due.is("but the TAPE", x.count(4), 2);
            Due.is("but the FAULT", x.fault(0), 1);
            Due.is("but SLOTS", x.count(10), 2);
            Due.is("undone", x.redo(), 1);
            Due.is("undone", x.side(0, 2), 0);
            Due.is("undone", x.redo(), 0);
            for (int i = 0; i < 3; i++) {
                Due.is("done", x.undo(), 1);
            }
            Due.is("done", x.undo(), 0);
            Due.same("all as it was told", Due.picture(Due.told(RICH)).replaceFirst(" 0 0 5 170 ", " 0 3 5 170 "), Due.picture(x));
        }
        AngleNet y = Due.told(SQUARE);
        y.keep(0);
        Due.tell(y, "posts 3;");
        Due.is("in place of another one", y.keep(0), 0);
        Due.tell(y, SQUARE);
        y.back(0);
        Due.is("in place of another one", y.count(0), 3);
        AngleNet none = new AngleNet();
        Due.is("no NET is kept, too", none.keep(1), 0);
        Due.tell(none, SQUARE);
        Due.is("no NET is kept, too", none.back(1), 0);
        Due.is("no NET is kept, too", none.can(), -2);
        Due.is("its posts are gone", none.count(0), 0);

        Sentences.says("-2: no such k.");
        int[] refused = {-1, 3, 4, FAR, LOW};
        for (int k : refused) {
            Due.is("keep(" + k + ")", y.keep(k), -2);
            Due.is("no NET, keep(" + k + ")", new AngleNet().keep(k), -2);
        }
    }

    private static void back() {
        Sentences.section("Promise 41: back");
        Sentences.says("All that is as IMAGE k has it: 0.");
        AngleNet x = busy();
        String busy = Due.picture(x);
        x.keep(0);
        change(x);
        String changed = Due.picture(x);
        x.keep(1);
        Due.tell(x, "posts 10;third 7 8 9;");
        String other = Due.picture(x);
        x.keep(2);
        String[] due = {busy, changed, other};
        int[] order = {1, 0, 2, 2, 0, 1, 0};
        for (int k : order) {
            Due.is("back(" + k + ")", x.back(k), 0);
            Due.same("IMAGE " + k, due[k], Due.picture(x));
            x.undo();
            x.tells(0, 1234);
        }
        Due.is("IMAGES stay", x.back(0), 0);
        Due.same("IMAGES stay", busy, Due.picture(x));

        Sentences.says("-2: no such k; -6: it has nothing.");
        int[] refused = {-1, 3, FAR, LOW};
        for (int k : refused) {
            Due.is("back(" + k + ")", x.back(k), -2);
        }
        AngleNet y = busy();
        y.keep(1);
        change(y);
        String was = Due.picture(y);
        Due.is("back(0)", y.back(0), -6);
        Due.is("back(2)", y.back(2), -6);
        Due.is("back(3)", y.back(3), -2);
        Due.same("nothing happens", was, Due.picture(y));
        Due.is("no NET", new AngleNet().back(0), -6);
    }

    // ---- 42 to 44

    private static void row() {
        Sentences.section("Promise 42: row");
        Sentences.says("A SLOT (0 .. 3) has a row of n numbers of a WIDTH, all 0 (in place of another one): 0.");
        for (int slot = 0; slot < 4; slot++) {
            for (int width = 0; width < 4; width++) {
                AngleNet x = new AngleNet();
                Due.is("row(" + slot + ", " + width + ", 0)", x.row(slot, width, 0), 0);
                Due.is("none", x.write(slot, 0, 1), -7);
                Due.is("row(" + slot + ", " + width + ", 60)", x.row(slot, width, 60), 0);
                Due.is("60", x.write(slot, 59, 1), 0);
                Due.is("60", x.write(slot, 60, 1), -7);
                Due.is("one SLOT", x.count(10), 1);
            }
        }
        AngleNet x = oneThird();
        Due.fill(x, 0, 2, 91, 92, 93, 94);
        x.row(0, 0, 3);
        reads(x, 0, 0, 0, 0, 0);
        Due.is("of n", x.write(0, 3, 0), -7);
        Due.fill(x, 0, 0, 1, 2, 3);
        x.row(0, 0, 3);
        reads(x, 0, 0, 0, 0, 0);
        Due.fill(x, 1, 1, 4, 5);
        x.row(0, 1, 2);
        reads(x, 1, 1, 4, 5);

        Sentences.says("-2: there is no such SLOT or WIDTH (0 .. 3), or n is above 60;");
        for (int slot : NO_SLOTS) {
            Due.is("row(" + slot + ", 0, 1)", x.row(slot, 0, 1), -2);
            Due.is("row(" + slot + ", 0, -1)", x.row(slot, 0, -1), -2);
            Due.is("row(0, " + slot + ", 1)", x.row(0, slot, 1), -2);
            Due.is("row(0, " + slot + ", -1)", x.row(0, slot, -1), -2);
        }
        Due.is("row(1, 1, 61)", x.row(1, 1, 61), -2);
        Due.is("row(1, 1, FAR)", x.row(1, 1, FAR), -2);
        reads(x, 1, 1, 4, 5);

        Sentences.says("-3, and the SLOT stays: n is below 0.");
        Due.is("row(1, 0, -1)", x.row(1, 0, -1), -3);
        Due.is("row(1, 3, LOW)", x.row(1, 3, LOW), -3);
        reads(x, 1, 1, 4, 5);
        Due.is("as many", x.write(1, 2, 0), -7);
        Due.is("row(2, 0, -1)", x.row(2, 0, -1), -3);
        Due.is("it has nothing still", x.write(2, 0, 1), -6);
    }

    private static void write() {
        Sentences.section("Promise 43: write");
        Sentences.says("Number i of the SLOT's row is v, cut to its WIDTH: 0.");
        for (int width = 0; width < 4; width++) {
            AngleNet x = oneThird();
            x.row(0, width, 3);
            Due.is("write(0, 0, 45)", x.write(0, 0, 45), 0);
            Due.is("write(0, 2, 46)", x.write(0, 2, 46), 0);
            reads(x, 0, width, 45, 0, 46);
            Due.is("write(0, 2, -3)", x.write(0, 2, -3), 0);
            reads(x, 0, width, 45, 0, -3);
            if (width < 3) {
                long round = 1L << (8 << width);
                x.write(0, 0, round + 7);
                x.write(0, 1, -round - 7);
                x.write(0, 2, 5 * round);
                reads(x, 0, width, 7, -7, 0);
                x.write(0, 0, Long.MAX_VALUE);
                x.write(0, 1, Long.MIN_VALUE);
                x.write(0, 2, round - 1);
                reads(x, 0, width, -1, 0, -1);
            }
        }
        reads(slotted("posts 3;third 0 1 2;corner 0 to 360;", 1, 2, 3), 0, 3, 1, 2, 3);
        AngleNet bytes = oneThird();
        Due.fill(bytes, 0, 0, 127, 53, 0);
        Due.is("127 is 127", bytes.laid(0), 0);
        Due.fill(bytes, 0, 0, 128, 127, 127);
        Due.is("128 is -128, not 128", bytes.laid(0), 100);
        Due.fill(bytes, 0, 0, 200, 126, 110);
        Due.is("200 is -56", bytes.laid(0), 300);

        Sentences.says("-2: there is no such SLOT; -6: it has nothing; -7: there is no such number.");
        AngleNet y = oneThird();
        for (int slot : NO_SLOTS) {
            Due.is("write(" + slot + ", 0, 1)", y.write(slot, 0, 1), -2);
            Due.is("write(" + slot + ", -1, 1)", y.write(slot, -1, 1), -2);
        }
        for (int slot = 0; slot < 4; slot++) {
            Due.is("write(" + slot + ", 0, 1)", y.write(slot, 0, 1), -6);
            Due.is("write(" + slot + ", -1, 1)", y.write(slot, -1, 1), -6);
        }
        Due.fill(y, 0, 3, 1, 2, 3);
        int[] refused = {-1, 3, 59, 60, FAR, LOW};
        for (int i : refused) {
            Due.is("write(0, " + i + ", 9)", y.write(0, i, 9), -7);
        }
        reads(y, 0, 3, 1, 2, 3);
    }

    private static void paste() {
        Sentences.section("Promise 44: paste");
        Sentences.says("So many numbers of a SLOT's row, from one on, are put to another one's (or its own), from one on, as they were: 0.");
        for (int width = 0; width < 4; width++) {
            AngleNet x = oneThird();
            Due.fill(x, 0, width, 1, 2, 3, 4, 5, 6);
            Due.fill(x, 1, width, 11, 12, 13, 14);
            Due.is("some", x.paste(0, 3, 1, 1, 2), 0);
            reads(x, 1, width, 11, 4, 5, 14);
            reads(x, 0, width, 1, 2, 3, 4, 5, 6);
            Due.is("to the ends", x.paste(0, 2, 1, 0, 4), 0);
            reads(x, 1, width, 3, 4, 5, 6);
            Due.is("its own, on", x.paste(0, 0, 0, 1, 5), 0);
            reads(x, 0, width, 1, 1, 2, 3, 4, 5);
            Due.is("its own, back", x.paste(0, 2, 0, 0, 4), 0);
            reads(x, 0, width, 2, 3, 4, 5, 4, 5);
            Due.is("its own, at its place", x.paste(0, 0, 0, 0, 6), 0);
            reads(x, 0, width, 2, 3, 4, 5, 4, 5);
            Due.is("none", x.paste(0, 0, 1, 0, 0), 0);
            Due.is("none, at the ends", x.paste(0, 6, 1, 4, 0), 0);
            reads(x, 1, width, 3, 4, 5, 6);
        }
        AngleNet full = oneThird();
        full.row(0, 3, 60);
        full.row(1, 3, 60);
        Due.is("sixty", full.paste(0, 0, 1, 0, 60), 0);
        Due.is("no NET", noNet().paste(0, 0, 1, 0, 1), 0);

        Sentences.says("-2: there is no such SLOT; -6: one has nothing; -8: they are not of one WIDTH;");
        AngleNet y = oneThird();
        y.row(0, 0, 3);
        y.row(1, 1, 3);
        for (int slot : NO_SLOTS) {
            Due.is("paste(" + slot + ", ..)", y.paste(slot, 0, 0, 0, 1), -2);
            Due.is("paste(0, 0, " + slot + ", ..)", y.paste(0, 0, slot, 0, 1), -2);
            Due.is("paste(2, 0, " + slot + ", ..)", y.paste(2, 0, slot, 0, -1), -2);
            Due.is("paste(" + slot + ", 0, 2, ..)", y.paste(slot, 0, 2, 0, -1), -2);
        }
        Due.is("the one has nothing", y.paste(2, 0, 0, 0, 1), -6);
        Due.is("the other has nothing", y.paste(0, 0, 2, 0, 1), -6);
        Due.is("both have nothing", y.paste(2, 0, 3, 0, 1), -6);
        Due.is("its own has nothing", y.paste(2, 0, 2, 0, 0), -6);
        Due.is("nothing, and beyond", y.paste(0, 9, 2, -1, -1), -6);
        Due.is("WIDTH 0 and 1", y.paste(0, 0, 1, 0, 1), -8);
        Due.is("WIDTH 1 and 0", y.paste(1, 0, 0, 0, 0), -8);
        Due.is("not of one WIDTH, and beyond", y.paste(0, 9, 1, -1, -1), -8);
        for (int a = 0; a < 4; a++) {
            for (int b = 0; b < 4; b++) {
                y.row(0, a, 1);
                y.row(1, b, 1);
                Due.is("WIDTH " + a + " and " + b, y.paste(0, 0, 1, 0, 1), a == b ? 0 : -8);
            }
        }

        Sentences.says("-7, and nothing happens: some are beyond their rows, or a place or n is below 0.");
        AngleNet z = oneThird();
        Due.fill(z, 0, 3, 1, 2, 3);
        Due.fill(z, 1, 3, 11, 12, 13, 14);
        int[][] refused = {{0, 0, 4}, {1, 0, 3}, {3, 0, 1}, {0, 2, 3}, {0, 4, 1}, {2, 3, 2}, {-1, 0, 1}, {0, -1, 1}, {0, 0, -1},
            {-1, 0, 0}, {0, -1, 0}, {FAR, 0, 1}, {0, FAR, 1}, {0, 0, FAR}, {1, 1, FAR}, {FAR, FAR, FAR}, {LOW, 0, 1}, {0, LOW, 1},
            {0, 0, LOW}, {-3, 0, 4}, {0, -3, 4}};
        for (int[] r : refused) {
            Due.is("paste(0, " + r[0] + ", 1, " + r[1] + ", " + r[2] + ")", z.paste(0, r[0], 1, r[1], r[2]), -7);
        }
        Due.is("its own", z.paste(0, 1, 0, 0, 3), -7);
        Due.is("its own", z.paste(0, 0, 0, 1, 3), -7);
        reads(z, 0, 3, 1, 2, 3);
        reads(z, 1, 3, 11, 12, 13, 14);
    }

    private static AngleNet noNet() {
        AngleNet x = new AngleNet();
        x.row(0, 0, 1);
        x.row(1, 0, 1);
        return x;
    }
}
