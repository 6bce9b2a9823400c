/** Promise 25: correct; and the proposals of promise 17. */
public final class CorrectTest {
    private static final int NONE = CustomsDesk.NONE;

    public static void main(String[] args) {
        sets();
        onlyOnce();
        firstOfAMember();
        readByBelow();
        readByTotal();
        readInLists();
        misusesDoNotRead();
        asFound();
        onlyKeptFounds();
        Desk.finish();
    }

    private static void sets() {
        Desk made = Desk.of("chain c : all; kind k { a : int = least(5); b : int = most(-5)?; d : int = oneof(4, 8, 2);"
            + " e : int = need; t : text = size(1, 2); p : k = go; }");
        CustomsDesk desk = made.desk;
        desk.paper(0);
        desk.paper(0);
        desk.link(0, 5, 1);
        desk.setInt(0, 0, 4, true);
        desk.setInt(0, 1, 0, true);
        desk.setInt(0, 2, 3, true);
        desk.setInt(1, 2, 6, true);
        desk.setText(0, 4, 0, true);
        Desk.due("check", desk.check(0, 0), 7);
        made.dueFound(3, 1, 0, 0, 0, 3, 0, 0, 0, 0, 0);
        made.dueFound(4, 5, 0, 0, 0, 4, 0, 0, 0, 0, 0);
        Desk.due("correct", desk.correct(), 4);
        Desk.due("least", desk.value(0, 0, 1), 5);
        Desk.due("most", desk.value(0, 1, 1), -5);
        Desk.due("of two the lower", desk.value(0, 2, 1), 2);
        Desk.due("of two the lower", desk.value(1, 2, 1), 4);
        Desk.due("need proposes nothing", desk.value(0, 3, 0), 0);
        Desk.due("founds stay", desk.found(0, 9), 5);
        Desk.due("check", desk.check(0, 0), 3);
    }

    private static void onlyOnce() {
        Desk made = Desk.of("chain c : all; kind k { a : int = least(5); }");
        CustomsDesk desk = made.desk;
        desk.paper(0);
        Desk.due("without a check", desk.correct(), NONE);
        Desk.due("check", desk.check(0, 0), 0);
        Desk.due("nothing to set", desk.correct(), 0);
        Desk.due("taken already", desk.correct(), NONE);
        desk.setInt(0, 0, 1, true);
        desk.check(0, 0);
        desk.check(0, 7);
        Desk.due("after another check", desk.correct(), 1);
        Desk.due("taken already", desk.correct(), NONE);
        desk.check(0, 7);
        Desk.due("a refused check is none", desk.correct(), NONE);
    }

    private static void firstOfAMember() {
        Desk made = Desk.of("chain c : all; rule r = 0; kind k { a : int = r, oneof(3, 9), least(5), most(1); }");
        CustomsDesk desk = made.desk;
        desk.paper(0);
        desk.paper(0);
        desk.setInt(0, 0, 4, true);
        Desk.due("check", desk.check(0, 0), 4);
        Desk.due("proposal", desk.found(0, 8), 0);
        Desk.due("proposal", desk.found(1, 9), 3);
        Desk.due("proposal", desk.found(2, 9), 5);
        Desk.due("proposal", desk.found(3, 9), 1);
        Desk.due("correct", desk.correct(), 1);
        Desk.due("the first one", desk.value(0, 0, 1), 3);
        Desk.due("check", desk.check(0, 0), 3);
        Desk.due("anew", desk.correct(), 1);
        Desk.due("the first one", desk.value(0, 0, 1), 5);
    }

    private static void readByBelow() {
        Desk made = Desk.of("group g; chain c : all; kind k { a : int = least(5); b : int = least(5); d : int = least(5);"
            + " * = below(a, b) @ g; } kind s of k { e : int = least(5); * = below(d, e); } kind o of s { }");
        CustomsDesk desk = made.desk;
        for (int kind = 0; kind < 3; kind++) {
            desk.paper(kind);
            for (int member = 0; member < 4; member++) {
                desk.setInt(kind, member, member, true);
            }
        }
        desk.check(0, 0);
        Desk.due("d alone", desk.correct(), 1);
        Desk.due("d", desk.value(0, 2, 1), 5);
        Desk.due("a", desk.value(0, 0, 1), 0);
        Desk.due("b", desk.value(0, 1, 1), 1);
        desk.check(1, 0);
        Desk.due("none of s", desk.correct(), 0);
        desk.check(2, 0);
        Desk.due("none of o", desk.correct(), 0);
        Desk.due("d of o", desk.value(2, 2, 1), 2);
    }

    private static void readByTotal() {
        Desk made = Desk.of("chain c : all; kind k { l : list k; a : int = least(5); z : int = least(5); y : int = least(5); }"
            + " kind s of k { m : list o; * = total(m, q, z); } kind o { q : int; }");
        CustomsDesk desk = made.desk;
        desk.paper(0);
        desk.paper(1);
        for (int paper = 0; paper < 2; paper++) {
            for (int member = 1; member < 4; member++) {
                desk.setInt(paper, member, 0, true);
            }
        }
        desk.check(0, 0);
        Desk.due("all of k", desk.correct(), 3);
        desk.check(1, 0);
        Desk.due("z is read", desk.correct(), 2);
        Desk.due("z", desk.value(1, 2, 1), 0);
        Desk.due("y", desk.value(1, 3, 1), 5);
    }

    private static void readInLists() {
        Desk made = Desk.of("chain c : all; kind top { t : int = least(5); i : int = least(5); }"
            + " kind row of top { n : int = least(5); } kind low of row { m : int = least(5); }"
            + " kind k { l : list row; z : int; * = total(l, i, z), total(l, n, z); }");
        CustomsDesk desk = made.desk;
        for (int kind = 0; kind < 3; kind++) {
            desk.paper(kind);
            for (int member = 0; member < 4; member++) {
                desk.setInt(kind, member, 0, true);
            }
        }
        desk.check(0, 0);
        Desk.due("a paper above the list's kind is not read", desk.correct(), 2);
        desk.check(1, 0);
        Desk.due("i and n of row are", desk.correct(), 1);
        Desk.due("t", desk.value(1, 0, 1), 5);
        desk.check(2, 0);
        Desk.due("those of low, too", desk.correct(), 2);
        Desk.due("m", desk.value(2, 3, 1), 5);
        Desk.due("n", desk.value(2, 2, 1), 0);
    }

    private static void misusesDoNotRead() {
        Desk made = Desk.of("chain c : all; kind k { a : int = least(5); t : text; * = below(a, t), below(a, x); }");
        made.desk.paper(0);
        made.desk.setInt(0, 0, 1, true);
        made.desk.check(0, 0);
        Desk.due("correct", made.desk.correct(), 1);
    }

    private static void asFound() {
        Desk made = Desk.of("chain c : all; kind k { a : int = oneof(1, 10); }");
        CustomsDesk desk = made.desk;
        desk.paper(0);
        desk.setInt(0, 0, 9, true);
        desk.check(0, 0);
        desk.setInt(0, 0, 0, true);
        Desk.due("proposal", desk.found(0, 9), 10);
        Desk.due("correct", desk.correct(), 1);
        Desk.due("as it was found", desk.value(0, 0, 1), 10);
    }

    private static void onlyKeptFounds() {
        Desk made = Desk.of("chain c : all; rule r = 0; mark m = r, r, r, r, r, r, r, r; kind k { a : int = m, m, m, m;"
            + " b : int = m, m, m, most(3), m; l : list k = go; }");
        CustomsDesk desk = made.desk;
        for (int i = 0; i < 9; i++) {
            desk.paper(0);
            desk.setInt(i, 0, 5, true);
            desk.setInt(i, 1, 5, true);
            if (i > 0) {
                desk.item(0, 2, i);
            }
        }
        // Sixty-five founds a paper: the proposals of the first seven are kept.
        Desk.due("check", desk.check(0, 0), 65 * 9);
        Desk.due("correct", desk.correct(), 7);
        Desk.due("kept", desk.value(6, 1, 1), 3);
        Desk.due("not kept", desk.value(7, 1, 1), 5);
    }
}
