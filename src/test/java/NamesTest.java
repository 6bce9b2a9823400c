/** Promises 6 to 9: named, kind, member, misuse. */
public final class NamesTest {
    private static final int NONE = CustomsDesk.NONE;

    public static void main(String[] args) {
        names();
        allNames();
        kindsAndMembers();
        misusesOfTypes();
        misusesOfArgs();
        misusesOnStar();
        rings();
        openedAtMost();
        misusesKept();
        Desk.finish();
    }

    private static void names() {
        CustomsDesk desk = Desk.of("group g; group h; chain c : g; chain d : h; rule r = v; rule s = v; mark m = go;"
            + " mark n = go; kind k { } kind abcdefgh { }").desk;
        Desk.due("all", desk.named(Desk.name("all")), 100);
        Desk.due("g", desk.named('g'), 101);
        Desk.due("h", desk.named('h'), 102);
        Desk.due("c", desk.named('c'), 200);
        Desk.due("d", desk.named('d'), 201);
        Desk.due("r", desk.named('r'), 300);
        Desk.due("s", desk.named('s'), 301);
        Desk.due("m", desk.named('m'), 400);
        Desk.due("n", desk.named('n'), 401);
        Desk.due("k", desk.named('k'), 500);
        Desk.due("abcdefgh", desk.named(Desk.name("abcdefgh")), 501);
        Desk.due("0s ahead, between and behind", desk.named(0x0061006c006c0000L), 100);
        Desk.due("k as the highest byte", desk.named(0x6b00000000000000L), 500);
        Desk.due("none", desk.named(0), NONE);
        Desk.due("need", desk.named(Desk.name("need")), NONE);
        Desk.due("a space more", desk.named(Desk.name("k ")), NONE);
        Desk.due("a shorter one", desk.named(Desk.name("abcdefg")), NONE);
        Desk.due("negative", desk.named(-1), NONE);
    }

    private static void allNames() {
        String[] parts = {"group g#;", "chain c#:g6;", "rule r#=v;", "mark m#=go;", "kind k#{}"};
        int[] counts = {7, 6, 16, 16, 16};
        StringBuilder text = new StringBuilder();
        for (int sort = 0; sort < 5; sort++) {
            for (int i = 0; i < counts[sort]; i++) {
                text.append(parts[sort].replace("#", "" + i));
            }
        }
        CustomsDesk desk = Desk.of(text.toString()).desk;
        for (int sort = 0; sort < 5; sort++) {
            for (int i = 0; i < counts[sort]; i++) {
                int want = (sort + 1) * 100 + i + (sort == 0 ? 1 : 0);
                Desk.due("named", desk.named(Desk.name("gcrmk".charAt(sort) + "" + i)), want);
            }
        }
        Desk.dueFault(text + "kind", 2, text.length());
    }

    private static void kindsAndMembers() {
        CustomsDesk desk = Desk.of("kind a { x : int; y : text; } kind b { } kind c of a { z : int; }"
            + " kind d of c { need : a; abcdefgh : list d; }").desk;
        Desk.due("members of a", desk.kind(0, 0), 2);
        Desk.due("a is of", desk.kind(0, 1), NONE);
        Desk.due("members of b", desk.kind(1, 0), 0);
        Desk.due("members of c", desk.kind(2, 0), 3);
        Desk.due("c is of", desk.kind(2, 1), 0);
        Desk.due("members of d", desk.kind(3, 0), 5);
        Desk.due("d is of", desk.kind(3, 1), 2);
        Desk.due("what 2", desk.kind(0, 2), NONE);
        Desk.due("what -1", desk.kind(0, -1), NONE);
        Desk.due("kind 4", desk.kind(4, 0), NONE);
        Desk.due("kind -1", desk.kind(-1, 0), NONE);
        Desk.due("x of d", desk.member(3, 'x'), 0);
        Desk.due("y of d", desk.member(3, 'y'), 1);
        Desk.due("z of d", desk.member(3, 'z'), 2);
        Desk.due("need of d", desk.member(3, Desk.name("need")), 3);
        Desk.due("abcdefgh of d", desk.member(3, Desk.name("abcdefgh")), 4);
        Desk.due("with 0s", desk.member(3, 0x7a000000L), 2);
        Desk.due("z of a", desk.member(0, 'z'), NONE);
        Desk.due("nothing of a", desk.member(0, 0), NONE);
        Desk.due("x of b", desk.member(1, 'x'), NONE);
        Desk.due("x of no kind", desk.member(4, 'x'), NONE);
        Desk.due("x of kind -1", desk.member(-1, 'x'), NONE);
    }

    private static void misusesOfTypes() {
        Desk made = Desk.of("rule r = v; kind k {"
            + " i : int = go, size(1, 2), below(a, b), total(a, b, c), need, least(1), r;"
            + " t : text = least(1), most(1), oneof(1), r, go, need, size(1, 2);"
            + " p : k = size(1, 2), r, oneof(1), go, need;"
            + " l : list k = least(1), r(1, 2), below(a, b), go, need, size(0, 0); }");
        int[][] want = {{0, 2}, {0, 5}, {0, 7}, {0, 8}, {1, 3}, {1, 4}, {1, 6}, {1, 100}, {1, 2}, {2, 5}, {2, 100},
            {2, 6}, {3, 3}, {3, 100}, {3, 7}};
        for (int k = 0; k < want.length; k++) {
            made.dueMisuse(k, 0, want[k][0], 2, want[k][1]);
        }
        made.dueMisuse(want.length, NONE, NONE, NONE, NONE);
        Desk.due("what 4", made.desk.misuse(0, 4), NONE);
        Desk.due("what -1", made.desk.misuse(0, -1), NONE);
        Desk.due("misuse -1", made.desk.misuse(-1, 0), NONE);
    }

    private static void misusesOfArgs() {
        Desk made = Desk.of("rule r = v; kind k { a : int = least, least(1, 2), least(x), most, oneof, oneof(1, 2, 3, 4),"
            + " oneof(1, x), r(1, 2, 3); b : int = r(x), r, r(1), need(1), least(-5); t : text = size(1), size(1, 2, 3),"
            + " size(1, x), size(2, 1); p : k = go(1); }");
        int[][] want = {{0, 3}, {0, 3}, {0, 3}, {0, 4}, {0, 6}, {0, 6}, {0, 100}, {1, 100}, {1, 1}, {2, 5}, {2, 5},
            {2, 5}, {3, 2}};
        for (int k = 0; k < want.length; k++) {
            made.dueMisuse(k, 0, want[k][0], 3, want[k][1]);
        }
        made.dueMisuse(want.length, NONE);
    }

    private static void misusesOnStar() {
        Desk made = Desk.of("rule r = v; kind k { i : int; t : text; * = below(i, j), need, below(i, t), r; j : int; }"
            + " kind s of k { x : list k; y : list s; z : int = size(1, 2); p : k; * = total(x, i, z), total(y, z, i),"
            + " total(x, z, z), total(p, i, z), total(x, i, t), total(x, i), below(i, j, i), go; }"
            + " kind n { a : int; b : int; l : list n; * = below(a, 4), below(a), below, total(l, a, b, b), total(4, a, b),"
            + " below(b, a), total(l, b, b); }");
        made.dueMisuse(0, 0, NONE, 2, 1);
        made.dueMisuse(1, 0, NONE, 3, 7);
        made.dueMisuse(2, 0, NONE, 2, 100);
        made.dueMisuse(3, 1, NONE, 3, 8);
        made.dueMisuse(4, 1, NONE, 3, 8);
        made.dueMisuse(5, 1, NONE, 3, 8);
        made.dueMisuse(6, 1, NONE, 3, 8);
        made.dueMisuse(7, 1, NONE, 3, 7);
        made.dueMisuse(8, 1, NONE, 2, 2);
        // The member's number has those above ahead of it.
        made.dueMisuse(9, 1, 5, 2, 5);
        for (int k = 10; k < 13; k++) {
            made.dueMisuse(k, 2, NONE, 3, 7);
        }
        made.dueMisuse(13, 2, NONE, 3, 8);
        made.dueMisuse(14, 2, NONE, 3, 8);
        made.dueMisuse(15, NONE);
    }

    private static void rings() {
        Desk made = Desk.of("mark a = b; mark b = need, a; mark c = c; mark d = need, a, c, least(1); mark e = d(9), need;"
            + " kind k { t : text = e, b; i : int = d; * = c; }");
        made.dueMisuse(0, 0, NONE, 1, 202);
        made.dueMisuse(1, 0, 0, 1, 200);
        made.dueMisuse(2, 0, 0, 1, 202);
        made.dueMisuse(3, 0, 0, 2, 3);
        made.dueMisuse(4, 0, 0, 1, 201);
        made.dueMisuse(5, 0, 1, 1, 200);
        made.dueMisuse(6, 0, 1, 1, 202);
        made.dueMisuse(7, NONE);
    }

    private static void openedAtMost() {
        // Twice 8 * 6 and 3 are 99: all are opened.
        Desk made = Desk.of("mark a = go, go, go, go, go, go; mark b = a, a, a, a, a, a, a, a; mark c = go, go, go;"
            + " kind k { i : int = b, b, c; j : int = size; }");
        int count = 0;
        while (count < 300 && made.desk.misuse(count, 1) == 0) {
            count++;
        }
        Desk.due("opened at i", count, 99);
        Desk more = Desk.of("mark a = go, go, go, go, go, go, go, go; mark b = a, a, a, a, a, a, a, a;"
            + " kind k { i : int = b, b; j : int = size; }");
        for (int k = 0; k < 100; k++) {
            more.dueMisuse(k, 0, 0, 2, 2);
        }
        more.dueMisuse(100, 0, 1, 2, 5);
        more.dueMisuse(101, NONE);
    }

    private static void misusesKept() {
        Desk made = Desk.of("mark a = go, go, go, go, go, go, go, go; mark b = a, a, a, a, a, a, a, a;"
            + " kind k { i : int = b, b; j : int = b, b; l : int = b; }");
        made.dueMisuse(99, 0, 0, 2, 2);
        made.dueMisuse(100, 0, 1, 2, 2);
        made.dueMisuse(199, 0, 1, 2, 2);
        made.dueMisuse(200, NONE, NONE, NONE, NONE);
    }
}
