/** Promises 1 to 5 at their boundaries: the TAPE's bytes, and what take() leaves. */
public final class TapeEdgeTest {
    private static final int NONE = CustomsDesk.NONE;
    private static final int BLANKS = 0x20202020;

    public static void main(String[] args) {
        Desk.due("NONE", NONE, -1);
        highestByteFirst();
        fullBySteps();
        refusedFeedPutsNothing();
        endAtItsEdges();
        bytesBehindTheEndAreGone();
        bytesBehindTheEndAreNoToken();
        textOfAllBytes();
        emptyText();
        faultOfTheLatestTake();
        emptyTapeBehindTake();
        Desk.finish();
    }

    private static int feedBlanks(CustomsDesk desk) {
        return desk.feed(BLANKS, BLANKS, BLANKS, BLANKS, BLANKS);
    }

    private static CustomsDesk withBlanks(int length) {
        CustomsDesk desk = new CustomsDesk();
        for (int i = 0; i * 20 < length; i++) {
            feedBlanks(desk);
        }
        desk.end(length);
        return desk;
    }

    /** "Twenty bytes come behind those on the TAPE, of each number the highest first". */
    private static void highestByteFirst() {
        CustomsDesk desk = new CustomsDesk();
        // kind abcdefgh{i:int;
        Desk.due("feed", desk.feed(0x6b696e64, 0x20616263, 0x64656667, 0x687b693a, 0x696e743b), 20);
        Desk.due("feed behind it", desk.feed(0x7d202020, BLANKS, BLANKS, BLANKS, BLANKS), 40);
        Desk.due("take", desk.take(), 1);
        Desk.due("kind", desk.named(Desk.name("abcdefgh")), 500);
        Desk.due("member", desk.member(0, 'i'), 0);
        CustomsDesk high = new CustomsDesk();
        high.feed(BLANKS, BLANKS, BLANKS, BLANKS, 0x202020ff);
        high.take();
        Desk.due("byte 255 is no TOKEN", high.fault(0), 1);
        Desk.due("it is the last of twenty", high.fault(1), 19);
    }

    /** "how many there are; NONE, and nothing comes, if there would be more than 3,000". */
    private static void fullBySteps() {
        CustomsDesk desk = new CustomsDesk();
        for (int i = 1; i <= 150; i++) {
            Desk.due("feed " + i, feedBlanks(desk), 20 * i);
        }
        Desk.due("feed over 3000", feedBlanks(desk), NONE);
        Desk.due("all 3000 are there", desk.end(3000), 3000);
        Desk.due("feed over 3000 again", feedBlanks(desk), NONE);
        Desk.due("with 2981", withBlanks(2981).feed(1, 1, 1, 1, 1), NONE);
        Desk.due("with 2980", withBlanks(2980).feed(1, 1, 1, 1, 1), 3000);
        Desk.due("with 2999", withBlanks(2999).feed(1, 1, 1, 1, 1), NONE);
    }

    private static void refusedFeedPutsNothing() {
        CustomsDesk desk = withBlanks(2981);
        Desk.due("feed", desk.feed(-1, -1, -1, -1, -1), NONE);
        Desk.due("no byte came", desk.end(2982), NONE);
        Desk.due("none went", desk.end(2981), 2981);
        Desk.due("take of blanks alone", desk.take(), 0);
    }

    /** "The TAPE has its first n bytes: n; NONE, doing nothing, if it has not so many, or n is below 0". */
    private static void endAtItsEdges() {
        CustomsDesk desk = new CustomsDesk();
        Desk.due("end(0) of nothing", desk.end(0), 0);
        Desk.due("end(1) of nothing", desk.end(1), NONE);
        Desk.due("end(-1) of nothing", desk.end(-1), NONE);
        feedBlanks(desk);
        Desk.due("all", desk.end(20), 20);
        Desk.due("one more", desk.end(21), NONE);
        Desk.due("the greatest", desk.end(Integer.MAX_VALUE), NONE);
        Desk.due("the least", desk.end(Integer.MIN_VALUE), NONE);
        Desk.due("below 0", desk.end(-1), NONE);
        Desk.due("refused ends do nothing", feedBlanks(desk), 40);
        Desk.due("one less", desk.end(39), 39);
        Desk.due("what is gone stays gone", desk.end(40), NONE);
        Desk.due("none", desk.end(0), 0);
        Desk.due("feed into none", feedBlanks(desk), 20);
    }

    private static void bytesBehindTheEndAreGone() {
        Desk made = new Desk();
        made.feed("kind a { } kind b { }");
        Desk.due("end", made.desk.end(10), 10);
        Desk.due("take", made.desk.take(), 1);
        Desk.due("b", made.desk.named('b'), NONE);
        made.feed("kind a { } kind c { }");
        made.desk.end(10);
        made.feed("  kind d { }");
        Desk.due("take", made.desk.take(), 2);
        Desk.due("c", made.desk.named('c'), NONE);
        Desk.due("d", made.desk.named('d'), 501);
    }

    /** A TOKEN ends where the TEXT ends, whatever was fed behind it before. */
    private static void bytesBehindTheEndAreNoToken() {
        dueCut("7abc", 1, 2, 0);
        dueCut("7890", 1, 2, 0);
        dueCut("mark m = need \"x\";", 16, 1, 14);
        dueCut("mark m = need \"x\";", 17, 2, 17);
        dueCut("kind a { } kind", 10, 0, NONE);
        dueCut("rule r = v v ==;", 14, 2, 14);
        dueCut("groups", 5, 2, 5);
        dueCut("-1", 1, 2, 0);
    }

    private static void dueCut(String text, int length, int code, int place) {
        Desk made = new Desk();
        made.feed(text);
        made.desk.end(length);
        made.desk.take();
        Desk.due("fault of the first " + length + " of: " + text, made.desk.fault(0), code);
        Desk.due("its place", made.desk.fault(1), place);
    }

    /** "A TEXT has at most 3,000 bytes". */
    private static void textOfAllBytes() {
        Desk made = new Desk();
        Desk.due("take", made.take("kind a { }" + " ".repeat(2980) + "kind b { }"), 2);
        Desk.due("its last part is read", made.desk.named('b'), 501);
        Desk less = new Desk();
        Desk.due("take", less.take("kind a { }" + " ".repeat(2981) + "kind b { "), NONE);
        Desk.due("its end is a place", less.desk.fault(1), 3000);
        Desk.due("2", less.desk.fault(0), 2);
        Desk last = new Desk();
        Desk.due("take", last.take("\n".repeat(2999) + "$"), NONE);
        Desk.due("its last byte is one", last.desk.fault(1), 2999);
        Desk.due("1", last.desk.fault(0), 1);
        for (String token : new String[] {"\"x", "\"", "7", "-7", "-", "abc", "group", "=", "*"}) {
            Desk ended = new Desk();
            Desk.due("take", ended.take(" ".repeat(3000 - token.length()) + token), NONE);
            Desk.due("fault of the last TOKEN " + token, ended.desk.fault(0), token.startsWith("\"") ? 1 : 2);
            Desk.due("its place", ended.desk.fault(1), token.equals("group") ? 3000 : 3000 - token.length());
        }
        Desk blanks = new Desk();
        Desk.due("3000 blanks", blanks.take("\n ".repeat(1500)), 0);
    }

    /** "text = {part} (perhaps none)". */
    private static void emptyText() {
        CustomsDesk desk = new CustomsDesk();
        Desk.due("take of nothing", desk.take(), 0);
        Desk.due("fault", desk.fault(0), 0);
        Desk.due("place", desk.fault(1), NONE);
        Desk.due("all is there", desk.named(Desk.name("all")), 100);
        Desk.due("and is no chain", desk.check(0, 0), NONE);
    }

    /** "Of the latest take() what 0: its FAULT (0), 1: its place (NONE without). NONE for another what." */
    private static void faultOfTheLatestTake() {
        Desk made = new Desk();
        made.take("group g; ?");
        Desk.due("fault", made.desk.fault(0), 2);
        Desk.due("place", made.desk.fault(1), 9);
        made.feed("$");
        Desk.due("a feed is no take", made.desk.fault(1), 9);
        made.desk.take();
        Desk.due("fault", made.desk.fault(0), 1);
        Desk.due("place 0", made.desk.fault(1), 0);
        Desk.due("what 2", made.desk.fault(2), NONE);
        Desk.due("what -1", made.desk.fault(-1), NONE);
        Desk.due("the greatest what", made.desk.fault(Integer.MAX_VALUE), NONE);
        made.take("group g;");
        Desk.due("fault", made.desk.fault(0), 0);
        Desk.due("place", made.desk.fault(1), NONE);
    }

    /** "The TAPE (empty then) is a TEXT". */
    private static void emptyTapeBehindTake() {
        Desk made = new Desk();
        made.take("kind a { }");
        Desk.due("nothing is there", made.desk.end(1), NONE);
        Desk.due("take of nothing", made.desk.take(), 0);
        Desk.due("it ends the text before", made.desk.named('a'), NONE);
        made.take("kind a { } $");
        Desk.due("nothing is there behind a FAULT", made.desk.end(1), NONE);
        Desk.due("feed", feedBlanks(made.desk), 20);
    }
}
