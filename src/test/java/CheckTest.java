/** Promises 16 to 19, 22 and 23: check, found, way, text, cut, groups. */
public final class CheckTest {
    private static final int NONE = CustomsDesk.NONE;

    public static void main(String[] args) {
        refused();
        order();
        builtInRules();
        sizesAndNeeds();
        starRules();
        marksOpened();
        groupsTakenIn();
        errorsEndTheChain();
        goingAndCutting();
        goInAnyGroup();
        longWays();
        texts();
        textsAreAsFound();
        heldAtMost();
        foundsKept();
        lastAsking();
        askingsEnd();
        Desk.finish();
    }

    private static void refused() {
        Desk made = Desk.of("chain c : all; kind k { a : int = need; }");
        CustomsDesk desk = made.desk;
        desk.paper(0);
        Desk.due("check", desk.check(0, 0), 1);
        Desk.due("no paper", desk.check(1, 0), NONE);
        Desk.due("paper -1", desk.check(-1, 0), NONE);
        Desk.due("no chain", desk.check(0, 1), NONE);
        Desk.due("chain -1", desk.check(0, -1), NONE);
        Desk.due("refused checks change nothing", desk.groups(), 1);
        made.dueFound(0, 1, 0, 0, 0, 0, 0, 0, 0, 0, 0, NONE);
        Desk.due("what -1", desk.found(0, -1), NONE);
        Desk.due("found 1", desk.found(1, 0), NONE);
        Desk.due("found -1", desk.found(-1, 0), NONE);
        Desk.due("way", desk.way(0, 0), NONE);
        Desk.due("way of none", desk.way(1, 0), NONE);
        Desk.due("text", desk.text(0, 0), NONE);
        Desk.due("text of none", desk.text(1, 0), NONE);
        Desk.due("cut", desk.cut(0), NONE);
        Desk.due("cut -1", desk.cut(-1), NONE);
        desk.setInt(0, 0, 1, true);
        Desk.due("check", desk.check(0, 0), 0);
        Desk.due("founds of the check before are gone", desk.found(0, 0), NONE);
    }

    private static void order() {
        Desk made = Desk.of("chain c : all; kind k { a : int = least(9)?; * = below(a, b)?; b : int = most(1)? # 4, need; }"
            + " kind s of k { d : int = need? # -8; * = below(b, a)?, below(a, a)?; }");
        CustomsDesk desk = made.desk;
        desk.paper(1);
        desk.setInt(0, 0, 5, true);
        desk.setInt(0, 1, 5, true);
        Desk.due("check", desk.check(0, 0), 6);
        made.dueFound(0, 7, 1, 0, 0, NONE, 0);
        made.dueFound(1, 7, 1, 0, 0, NONE, 0);
        made.dueFound(2, 7, 1, 0, 0, NONE, 0);
        made.dueFound(3, 3, 1, 0, 0, 0, 0, 0, 0, 1, 9);
        made.dueFound(4, 4, 1, 4, 0, 1, 0, 0, 0, 1, 1);
        made.dueFound(5, 1, 1, -8, 0, 2, 0, 0, 0, 0, 0);
        desk.setInt(0, 1, 6, true);
        Desk.due("check", desk.check(0, 0), 5);
        made.dueFound(0, 7);
        made.dueFound(1, 7);
        made.dueFound(2, 3);
    }

    private static void builtInRules() {
        Desk made = Desk.of("chain c : all; kind k { a : int = least(3), most(5), oneof(3, 5, 9, -4); }");
        CustomsDesk desk = made.desk;
        desk.paper(0);
        Desk.due("what is not there holds", desk.check(0, 0), 0);
        int[][] want = {{2, 2}, {3, 0}, {4, 1}, {5, 0}, {6, 2}, {9, 1}, {-4, 1}};
        for (int[] row : want) {
            desk.setInt(0, 0, row[0], true);
            Desk.due("check at " + row[0], desk.check(0, 0), row[1]);
        }
        int[][] nearest = {{4, 3}, {7, 5}, {8, 9}, {-1, -4}, {0, 3}, {Integer.MAX_VALUE, 9}, {Integer.MIN_VALUE, -4}};
        for (int[] row : nearest) {
            desk.setInt(0, 0, row[0], true);
            int last = desk.check(0, 0) - 1;
            made.dueFound(last, 6);
            Desk.due("proposal", desk.found(last, 8), 1);
            Desk.due("nearest to " + row[0], desk.found(last, 9), row[1]);
        }
    }

    private static void sizesAndNeeds() {
        Desk made = Desk.of("chain c : all; kind k { t : text = size(1, 2), need?; l : list k = size(1, 2), need?; p : k = need; }");
        CustomsDesk desk = made.desk;
        desk.paper(0);
        Desk.due("check", desk.check(0, 0), 4);
        made.dueFound(0, 1, 1, 0, 0, 0);
        made.dueFound(1, 5, 0, 0, 0, 1);
        made.dueFound(2, 1, 1, 0, 0, 1);
        made.dueFound(3, 1, 0, 0, 0, 2);
        desk.link(0, 2, 0);
        desk.item(0, 1, 0);
        desk.setText(0, 0, 0, true);
        Desk.due("check", desk.check(0, 0), 1);
        made.dueFound(0, 5, 0, 0, 0, 0);
        desk.setText(0, 0, Desk.name("ab"), true);
        desk.item(0, 1, 0);
        Desk.due("check", desk.check(0, 0), 0);
        desk.setText(0, 0, Desk.name("abc"), true);
        desk.item(0, 1, 0);
        Desk.due("check", desk.check(0, 0), 2);
    }

    private static void starRules() {
        Desk made = Desk.of("chain c : all; kind k { * = below(a, b), total(l, n, b); a : int; b : int; l : list m; }"
            + " kind m { n : int; } kind o of m { }");
        CustomsDesk desk = made.desk;
        desk.paper(0);
        desk.paper(1);
        desk.paper(2);
        desk.setInt(0, 0, 7, true);
        Desk.due("without b all holds", desk.check(0, 0), 0);
        desk.setInt(0, 0, 0, false);
        desk.setInt(0, 1, 4, true);
        Desk.due("the sum of nothing", desk.check(0, 0), 1);
        made.dueFound(0, 8, 0, 0, 0, NONE, 0, 0, 0, 0, 0);
        desk.item(0, 2, 1);
        desk.item(0, 2, 2);
        desk.item(0, 2, 1);
        desk.setInt(1, 0, 2, true);
        Desk.due("those without n count 0", desk.check(0, 0), 0);
        desk.setInt(0, 0, 4, true);
        Desk.due("not below", desk.check(0, 0), 1);
        made.dueFound(0, 7);
        desk.setInt(0, 0, 3, true);
        Desk.due("below", desk.check(0, 0), 0);
        desk.setInt(1, 0, Integer.MAX_VALUE, true);
        desk.setInt(2, 0, 2, true);
        desk.setInt(0, 0, Integer.MIN_VALUE, true);
        desk.setInt(0, 1, 0, true);
        Desk.due("sums are longs", desk.check(0, 0), 1);
    }

    private static void marksOpened() {
        Desk made = Desk.of("group g; chain c : all, g; mark in = least(5) ? @ g # 3 \"in\", most(1), ring; mark ring = ring;"
            + " mark out = in(1) ! \"out {a}\", in; mark more = out ? @ g # 8;"
            + " kind k { a : int = more, in, out \"\"; }");
        CustomsDesk desk = made.desk;
        desk.paper(0);
        desk.setInt(0, 0, 3, true);
        Desk.due("check", desk.check(0, 0), 3);
        Desk.due("groups", desk.groups(), 1);
        // By all: the most(1) of in, then both of out; those of more are of g.
        made.dueFound(0, 4, 0, 0, 0, 0);
        made.dueText(0, "");
        made.dueFound(1, 4, 0, 0, 0, 0);
        made.dueText(1, "");
        made.dueFound(2, 4, 0, 0, 0, 0);
        Desk only = Desk.of("group g; chain c : g; mark in = least(5) ? @ g # 3 \"in\", most(1);"
            + " mark out = in(1) ! \"out {a}\", in; mark more = out ? @ g # 8; kind k { a : int = more, in, out \"\"; }");
        only.desk.paper(0);
        only.desk.setInt(0, 0, 3, true);
        Desk.due("check", only.desk.check(0, 0), 7);
        only.dueFound(0, 3, 1, 8);
        only.dueText(0, "out 5");
        only.dueFound(1, 4, 1, 8);
        only.dueText(1, "out 1");
        only.dueFound(2, 3, 1, 8);
        only.dueText(2, "in");
        only.dueFound(3, 4, 1, 8);
        only.dueText(3, "");
        only.dueFound(4, 3, 1, 3);
        only.dueText(4, "in");
        only.dueFound(5, 3, 0, 3);
        only.dueText(5, "");
        only.dueFound(6, 3, 1, 3);
    }

    private static void groupsTakenIn() {
        Desk made = Desk.of("group g; group h : g; group i : h, all; chain a : all; chain b : g; chain c : h; chain d : i;"
            + " chain e : i, i, g; kind k { x : int = least(1)?, least(2)? @ g, least(3)? @ h, least(4)? @ i; }");
        CustomsDesk desk = made.desk;
        desk.paper(0);
        desk.setInt(0, 0, 0, true);
        Desk.due("by all", desk.check(0, 0), 1);
        Desk.due("by g", desk.check(0, 1), 1);
        made.dueFound(0, 3, 1, 0, 0, 0, 0, 0, 0, 1, 2);
        Desk.due("by h", desk.check(0, 2), 2);
        Desk.due("by i", desk.check(0, 3), 4);
        Desk.due("one may come twice", desk.check(0, 4), 9);
        Desk.due("groups", desk.groups(), 3);
    }

    private static void errorsEndTheChain() {
        Desk made = Desk.of("group g; group h; chain c : g, h, all; chain d : h, g, all;"
            + " kind k { x : int = need? @ g, need @ h, need; }");
        CustomsDesk desk = made.desk;
        desk.paper(0);
        Desk.due("a warning and an error", desk.check(0, 0), 2);
        Desk.due("groups", desk.groups(), 2);
        Desk.due("an error", desk.check(0, 1), 1);
        Desk.due("groups", desk.groups(), 1);
        desk.setInt(0, 0, 1, true);
        Desk.due("none", desk.check(0, 1), 0);
        Desk.due("groups", desk.groups(), 3);
    }

    private static void goingAndCutting() {
        Desk made = Desk.of("chain c : all; chain d : all, all; kind k { p : k = need?, go; a : int = need?; l : list k = go;"
            + " q : k; }");
        CustomsDesk desk = made.desk;
        for (int i = 0; i < 5; i++) {
            desk.paper(0);
        }
        // 0 -p-> 1, 0 -l-> 2, 1, 0, 3; 1 -p-> 2; 2 -l-> 0; 3 -q-> 4, which no go leads into.
        desk.link(0, 0, 1);
        desk.item(0, 2, 2);
        desk.item(0, 2, 1);
        desk.item(0, 2, 0);
        desk.item(0, 2, 3);
        desk.link(1, 0, 2);
        desk.item(2, 2, 0);
        desk.link(3, 3, 4);
        Desk.due("check", desk.check(0, 0), 6);
        int[][] want = {{0, 1}, {1, 1}, {2, 0}, {2, 1}, {3, 0}, {3, 1}};
        int[][] ways = {{}, {0}, {0, 0}, {0, 0}, {203}, {203}};
        for (int k = 0; k < 6; k++) {
            made.dueFound(k, 1, 1, 0, want[k][0], want[k][1], 0, ways[k].length);
            for (int i = 0; i < ways[k].length; i++) {
                Desk.due("way", desk.way(k, i), ways[k][i]);
            }
            Desk.due("way", desk.way(k, ways[k].length), NONE);
            Desk.due("way", desk.way(k, -1), NONE);
        }
        int[] cuts = {0, 2, 1, 0};
        for (int k = 0; k < 4; k++) {
            Desk.due("cut " + k, desk.cut(k), cuts[k]);
        }
        Desk.due("cut 4", desk.cut(4), NONE);
        Desk.due("each group goes anew", desk.check(0, 1), 12);
        Desk.due("cut 4", desk.cut(4), 0);
        Desk.due("cut 7", desk.cut(7), 0);
        Desk.due("cut 8", desk.cut(8), NONE);
        made.dueFound(11, 1, 1, 0, 3, 1, 0, 1);
        Desk.due("way", desk.way(11, 0), 203);
        for (int i = 0; i < 16; i++) {
            desk.item(0, 2, 0);
        }
        desk.check(0, 1);
        Desk.due("cut 39", desk.cut(39), 0);
        for (int i = 0; i < 19; i++) {
            desk.item(2, 2, 0);
        }
        desk.check(0, 1);
        Desk.due("cut 58", desk.cut(58), 0);
        Desk.due("cut 59 is kept", desk.cut(59), 2);
        Desk.due("cut 60 is not", desk.cut(60), NONE);
    }

    private static void goInAnyGroup() {
        Desk made = Desk.of("group g; group h; chain c : g; kind k { p : k = go @ h; x : int = need @ g; y : int = go; }");
        CustomsDesk desk = made.desk;
        desk.paper(0);
        desk.paper(0);
        desk.link(0, 0, 1);
        desk.setInt(0, 1, 1, true);
        Desk.due("check", desk.check(0, 0), 1);
        made.dueFound(0, 1, 0, 0, 1, 1, 0, 1);
    }

    private static void longWays() {
        Desk made = Desk.of("chain c : all; kind k { x : int = least(1)?; p : k = go; }");
        CustomsDesk desk = made.desk;
        for (int i = 0; i < 60; i++) {
            desk.paper(0);
            if (i > 0) {
                desk.link(i - 1, 1, i);
            }
        }
        desk.setInt(59, 0, 0, true);
        desk.setInt(40, 0, 0, true);
        Desk.due("check", desk.check(0, 0), 2);
        Desk.due("steps", desk.found(0, 6), 40);
        Desk.due("way", desk.way(0, 39), 100);
        Desk.due("way", desk.way(0, 40), NONE);
        Desk.due("steps, kept or not", desk.found(1, 6), 59);
        Desk.due("way kept", desk.way(1, 39), 100);
        Desk.due("way not kept", desk.way(1, 40), NONE);
    }

    private static void texts() {
        Desk made = Desk.of("chain c : all; rule r = 0; kind k { * = below(x, x)? \"{v}{a}{b}\";"
            + " x : int = oneof(7, -8, 9)? \"<{v}|{a}|{b}|{c}|{{v}}|{v>\", r(4)? \"{a}{b}{ v}}{\", r? \"{v}{v}{v}{v}{v}{v}{v}{v}{v}\";"
            + " t : text = size(3, 4)? \"{v}\"; l : list k = size(2, 4)? \"{v}\"; p : k = go; q : k = need? \"{v}\"; }");
        CustomsDesk desk = made.desk;
        desk.paper(0);
        desk.setInt(0, 0, -123456789, true);
        desk.setText(0, 1, Desk.name("ab"), true);
        desk.item(0, 2, 0);
        Desk.due("check", desk.check(0, 0), 7);
        made.dueText(0, "000");
        made.dueText(1, "<-123456789|7|-8|{c}|{-123456789}|{v>");
        made.dueText(2, "40{ v}}{");
        // Nine times ten bytes, of which 80 are kept.
        made.dueText(3, "-123456789".repeat(8));
        Desk.due("bytes", desk.found(3, 7), 80);
        made.dueText(4, "2");
        made.dueText(5, "1");
        made.dueText(6, "0");
        Desk.due("byte -1", desk.text(0, -1), NONE);
    }

    private static void textsAreAsFound() {
        Desk made = Desk.of("chain c : all; kind k { x : int = least(5) \"{v}\"; }");
        CustomsDesk desk = made.desk;
        desk.paper(0);
        desk.setInt(0, 0, 3, true);
        desk.check(0, 0);
        desk.setInt(0, 0, 77, true);
        made.dueText(0, "3");
    }

    private static void heldAtMost() {
        Desk made = Desk.of("chain c : all; mark a = need?, need?, need?, need?, need?, need?, size(1, 2);"
            + " mark b = a, a, a, a, a, a; kind k { x : int = b, b; p : k = b, go; q : k = need?, go; }");
        CustomsDesk desk = made.desk;
        desk.paper(0);
        desk.paper(0);
        desk.paper(0);
        // 72 of the 84 that are opened are no misuses: 40 hold.
        Desk.due("check", desk.check(0, 0), 40 + 36 + 1);
        for (int k = 0; k < 12; k++) {
            made.dueMisuse(k, 0, 0, 2, 5);
        }
        made.dueMisuse(12, 0, 1, 2, 5);
        Desk late = Desk.of("chain c : all; mark a = need?, need?, need?, need?, need?, need?, need?, need?;"
            + " kind k { p : k = a, a, a, a, a, go; q : k = a, a, a, a, go, a; }");
        late.desk.paper(0);
        late.desk.paper(0);
        late.desk.link(0, 0, 1);
        Desk.due("a go that is the 41st does not go", late.desk.check(0, 0), 39);
        late.desk.link(0, 0, NONE);
        late.desk.link(0, 1, 1);
        Desk.due("a go that is the 33rd does", late.desk.check(0, 0), 40 + 40 + 39);
        late.dueMisuse(0, NONE);
    }

    private static void foundsKept() {
        Desk made = Desk.of("chain c : all, all; mark a = most(1)?, most(1)?, most(1)?, most(1)?, most(1)?, most(1)?, most(1)?,"
            + " need; mark w = a?; kind k { x : int = w, w, w, w, w; l : list k = go; y : int = need @ all; }");
        CustomsDesk desk = made.desk;
        for (int i = 0; i < 15; i++) {
            desk.paper(0);
            desk.setInt(i, 0, 5, true);
            desk.setInt(i, 2, 5, true);
            if (i > 0) {
                desk.item(0, 1, i);
            }
        }
        Desk.due("check", desk.check(0, 0), 2 * 15 * 35);
        Desk.due("groups", desk.groups(), 2);
        made.dueFound(499, 4, 1, 0, 14, 0);
        made.dueFound(500, NONE);
        Desk.due("way", desk.way(499, 0), 113);
        Desk.due("way", desk.way(500, 0), NONE);
        Desk.due("text", desk.text(500, 0), NONE);
        desk.setInt(14, 2, 0, false);
        Desk.due("check", desk.check(0, 0), 15 * 35 + 1);
        Desk.due("an error that is not kept ends the chain, too", desk.groups(), 1);
    }

    private static void lastAsking() {
        Desk made = Desk.of("chain c : all, all; mark a = need?, need?, need?, need?, need?, need?, need?, need?;"
            + " kind k { x : int = a, a, a, a, a; y : int = a, a, a; l : list k = go; }");
        CustomsDesk desk = made.desk;
        for (int i = 0; i < 79; i++) {
            desk.paper(0);
            if (i > 0) {
                desk.item((i - 1) / 20, 2, i);
            }
        }
        // 78 papers and eight askings of the 79th.
        Desk.due("check", desk.check(0, 0), 5000);
        Desk.due("groups", desk.groups(), 1);
    }

    private static void askingsEnd() {
        Desk made = Desk.of("group g; chain c : all, all, g; mark a = need?, need?, need?, need?, need?, need?, need?, need?;"
            + " rule no starts 0 = v; mark b = no, no, no, no, no, no, no, no;"
            + " kind k { x : int = a, a, a, a, a; y : int = b, b, b, b, b; l : list k = go; z : k = go; }");
        CustomsDesk desk = made.desk;
        for (int i = 0; i < 63; i++) {
            desk.paper(0);
            if (i > 0) {
                desk.item((i - 1) / 20, 2, i);
            }
        }
        // Eighty askings a paper, of which forty are passed over: the 5000th is in the middle of the 63rd paper.
        Desk.due("check", desk.check(0, 0), 62 * 40 + 40);
        Desk.due("groups", desk.groups(), 1);
        Desk.due("asked", desk.asked(0, 0), 0);
        Desk.due("state", desk.asked(0, 1), 2);
        // Paper 20 is the last one; the way back to paper 0 would be cut.
        desk.link(20, 3, 0);
        desk.check(0, 0);
        Desk.due("nothing more is gone into", desk.cut(0), NONE);
        Desk.due("check", desk.check(20, 0), 62 * 40 + 40);
        Desk.due("nothing more is gone into", desk.cut(0), NONE);
        Desk.due("groups", desk.groups(), 1);
    }
}
