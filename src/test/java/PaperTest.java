/** Promises 10 to 15: paper, setInt, setText, link, item, value. */
public final class PaperTest {
    private static final int NONE = CustomsDesk.NONE;
    private static final String TEXT = "kind a { i : int; t : text; p : a; l : list a; } kind b of a { j : int; q : b; }"
        + " kind c { }";

    public static void main(String[] args) {
        papers();
        ints();
        texts();
        links();
        lists();
        values();
        Desk.finish();
    }

    private static void papers() {
        CustomsDesk desk = Desk.of(TEXT).desk;
        Desk.due("paper(-1)", desk.paper(-1), NONE);
        Desk.due("paper(3)", desk.paper(3), NONE);
        for (int i = 0; i < 200; i++) {
            Desk.due("paper", desk.paper(i % 3), i);
        }
        Desk.due("paper 200", desk.paper(0), NONE);
        Desk.due("of paper 199", desk.setInt(199, 0, 3, true), true);
        Desk.due("of paper 200", desk.setInt(200, 0, 3, true), false);
    }

    private static void ints() {
        CustomsDesk desk = Desk.of(TEXT).desk;
        desk.paper(0);
        desk.paper(1);
        Desk.due("not there", desk.value(0, 0, 0), 0);
        Desk.due("nothing", desk.value(0, 0, 1), 0);
        Desk.due("setInt", desk.setInt(0, 0, Integer.MIN_VALUE, true), true);
        Desk.due("there", desk.value(0, 0, 0), 1);
        Desk.due("value", desk.value(0, 0, 1), Integer.MIN_VALUE);
        Desk.due("own member", desk.setInt(1, 4, 7, true), true);
        Desk.due("own member", desk.value(1, 4, 1), 7);
        Desk.due("not a's member", desk.setInt(0, 4, 7, true), false);
        Desk.due("taken away", desk.setInt(0, 0, 9, false), true);
        Desk.due("not there", desk.value(0, 0, 0), 0);
        Desk.due("nothing", desk.value(0, 0, 1), 0);
        for (int member = -1; member <= 6; member++) {
            Desk.due("setInt at " + member, desk.setInt(1, member, 1, false), member == 0 || member == 4);
        }
        Desk.due("no paper", desk.setInt(2, 0, 1, true), false);
        Desk.due("paper -1", desk.setInt(-1, 0, 1, true), false);
    }

    private static void texts() {
        CustomsDesk desk = Desk.of(TEXT).desk;
        desk.paper(0);
        Desk.due("setText", desk.setText(0, 1, Desk.name("ab ~"), true), true);
        Desk.due("letters", desk.value(0, 1, 1), 4);
        Desk.due("0s left out", desk.setText(0, 1, 0x6100000062000063L, true), true);
        Desk.due("letters", desk.value(0, 1, 1), 3);
        Desk.due("eight", desk.setText(0, 1, Desk.name("abcdefgh"), true), true);
        Desk.due("letters", desk.value(0, 1, 1), 8);
        Desk.due("byte 31", desk.setText(0, 1, 0x611f, true), false);
        Desk.due("byte 127", desk.setText(0, 1, 0x7f61, true), false);
        Desk.due("byte 255", desk.setText(0, 1, -1, true), false);
        Desk.due("byte 31, not there", desk.setText(0, 1, 31, false), false);
        Desk.due("as before", desk.value(0, 1, 1), 8);
        Desk.due("no letter", desk.setText(0, 1, 0, true), true);
        Desk.due("there", desk.value(0, 1, 0), 1);
        Desk.due("letters", desk.value(0, 1, 1), 0);
        Desk.due("taken away", desk.setText(0, 1, Desk.name("abc"), false), true);
        Desk.due("not there", desk.value(0, 1, 0), 0);
        Desk.due("letters", desk.value(0, 1, 1), 0);
        for (int member = -1; member <= 4; member++) {
            Desk.due("setText at " + member, desk.setText(0, member, 'a', true), member == 1);
        }
        Desk.due("no paper", desk.setText(1, 1, 'a', true), false);
    }

    private static void links() {
        CustomsDesk desk = Desk.of(TEXT).desk;
        desk.paper(0);
        desk.paper(1);
        desk.paper(2);
        Desk.due("to itself", desk.link(0, 2, 0), true);
        Desk.due("value", desk.value(0, 2, 1), 0);
        Desk.due("there", desk.value(0, 2, 0), 1);
        Desk.due("to one below", desk.link(0, 2, 1), true);
        Desk.due("value", desk.value(0, 2, 1), 1);
        Desk.due("to another kind", desk.link(0, 2, 2), false);
        Desk.due("to one above", desk.link(1, 5, 0), false);
        Desk.due("to its own", desk.link(1, 5, 1), true);
        Desk.due("to no paper", desk.link(0, 2, 3), false);
        Desk.due("to -2", desk.link(0, 2, -2), false);
        Desk.due("as before", desk.value(0, 2, 1), 1);
        Desk.due("to nothing", desk.link(0, 2, NONE), true);
        Desk.due("not there", desk.value(0, 2, 0), 0);
        Desk.due("value", desk.value(0, 2, 1), 0);
        for (int member = -1; member <= 4; member++) {
            Desk.due("link at " + member, desk.link(0, member, 0), member == 2);
            Desk.due("link at " + member, desk.link(0, member, NONE), member == 2);
        }
        Desk.due("no paper", desk.link(3, 2, 0), false);
    }

    private static void lists() {
        CustomsDesk desk = Desk.of(TEXT).desk;
        desk.paper(0);
        desk.paper(1);
        desk.paper(2);
        Desk.due("there without one", desk.value(0, 3, 0), 1);
        Desk.due("none", desk.value(0, 3, 1), 0);
        Desk.due("another kind", desk.item(0, 3, 2), NONE);
        Desk.due("no paper", desk.item(0, 3, 3), NONE);
        Desk.due("paper -1", desk.item(0, 3, NONE), NONE);
        for (int i = 1; i <= 20; i++) {
            Desk.due("item", desk.item(0, 3, i % 2), i);
        }
        Desk.due("item 21", desk.item(0, 3, 0), NONE);
        Desk.due("twenty", desk.value(0, 3, 1), 20);
        Desk.due("the other list", desk.item(1, 3, 0), 1);
        for (int member = -1; member <= 4; member++) {
            if (member != 3) {
                Desk.due("item at " + member, desk.item(0, member, 0), NONE);
            }
        }
        Desk.due("of no paper", desk.item(3, 3, 0), NONE);
    }

    private static void values() {
        CustomsDesk desk = Desk.of(TEXT).desk;
        desk.paper(1);
        desk.paper(2);
        desk.setInt(0, 0, NONE, true);
        Desk.due("a value like NONE", desk.value(0, 0, 1), NONE);
        desk.setInt(0, 0, 5, true);
        Desk.due("what 2", desk.value(0, 0, 2), NONE);
        Desk.due("what -1", desk.value(0, 0, -1), NONE);
        Desk.due("member 6", desk.value(0, 6, 0), NONE);
        Desk.due("member -1", desk.value(0, -1, 0), NONE);
        Desk.due("of a kind without members", desk.value(1, 0, 0), NONE);
        Desk.due("paper 2", desk.value(2, 0, 0), NONE);
        Desk.due("paper -1", desk.value(-1, 0, 0), NONE);
    }
}
