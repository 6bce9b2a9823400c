/** Promise 9 and the MARKS it rests on, at their boundaries: what is opened, what holds, what is a MISUSE. */
public final class MarkEdgeTest {
    private static final int NONE = CustomsDesk.NONE;
    /** Eight and 64 uses that are MISUSES at an int. */
    private static final String WRONG = "mark e = go, go, go, go, go, go, go, go; mark t = e, e, e, e, e, e, e, e;";
    /** Eight uses that hold at any member. */
    private static final String RIGHT = "mark n = need?, need?, need?, need?, need?, need?, need?, need?;";

    public static void main(String[] args) {
        severities();
        groups();
        payloads();
        strings();
        outermost();
        innerArgs();
        ringsOfOneTwoAndThree();
        ringsWithin();
        ringsOpenNothing();
        marksWithinSixteen();
        hundredOpened();
        hundredOpenedOnStar();
        ringsAreOpenedUses();
        fortyHold();
        fortyHoldOnStar();
        misusesAreNoneOfTheForty();
        rulesAndTypes();
        numbersOfArgs();
        sortsOfArgs();
        membersOfBelow();
        membersOfTotal();
        typeAheadOfArgs();
        orderOfMisuses();
        twoHundredKept();
        toldOnce();
        noSuchMisuse();
        Desk.finish();
    }

    /** A desk with one found, of the need of a mark within a use, by the chain of the group that it is of. */
    private static Desk marked(String inner, String outer, int chain) {
        Desk made = Desk.of("group g; group h; chain c : all; chain d : g; chain f : h; mark m = need " + inner
            + "; kind k { x : int = m " + outer + "; }");
        made.desk.paper(0);
        for (int c = 0; c < 3; c++) {
            Desk.due("need " + inner + " in m " + outer + " by chain " + c, made.desk.check(0, c), c == chain ? 1 : 0);
        }
        made.desk.check(0, chain);
        return made;
    }

    /** "severity, group, payload and text of the outer use count only if it has them, else those of the inner one". */
    private static void severities() {
        String[] signs = {"", "!", "?"};
        // At last: error.
        int[] severities = {0, 0, 1};
        for (int inner = 0; inner < 3; inner++) {
            for (int outer = 0; outer < 3; outer++) {
                int want = severities[outer == 0 ? inner : outer];
                marked(signs[inner], signs[outer], 0).dueFound(0, 1, want, 0, 0, 0, 0);
            }
        }
    }

    private static void groups() {
        String[] groups = {"", "@ all", "@ g", "@ h"};
        // At last: all.
        int[] chains = {0, 0, 1, 2};
        for (int inner = 0; inner < 4; inner++) {
            for (int outer = 0; outer < 4; outer++) {
                marked(groups[inner], groups[outer], chains[outer == 0 ? inner : outer]);
            }
        }
    }

    private static void payloads() {
        String[] payloads = {"", "# 0", "# -1", "# 999999999"};
        int[] numbers = {0, 0, -1, 999999999};
        for (int inner = 0; inner < 4; inner++) {
            for (int outer = 0; outer < 4; outer++) {
                int want = numbers[outer == 0 ? inner : outer];
                marked(payloads[inner], payloads[outer], 0).dueFound(0, 1, 0, want);
            }
        }
    }

    private static void strings() {
        String[] strings = {"", "\"\"", "\"x\"", "\"{v}y\""};
        String[] texts = {"", "", "x", "0y"};
        for (int inner = 0; inner < 4; inner++) {
            for (int outer = 0; outer < 4; outer++) {
                marked(strings[inner], strings[outer], 0).dueText(0, texts[outer == 0 ? inner : outer]);
            }
        }
    }

    private static void outermost() {
        Desk made = Desk.of("group g; chain c : g; mark a = need ! @ all # 1 \"a\"; mark b = a ? # 2 \"b\"; mark d = b @ g # 3;"
            + " kind k { x : int = d # 4; y : int = d; z : int = b @ g; }");
        made.desk.paper(0);
        Desk.due("check", made.desk.check(0, 0), 3);
        made.dueFound(0, 1, 1, 4, 0, 0);
        made.dueText(0, "b");
        made.dueFound(1, 1, 1, 3, 0, 1);
        made.dueFound(2, 1, 1, 2, 0, 2);
    }

    /** "args are the inner one's". */
    private static void innerArgs() {
        Desk made = Desk.of("chain c : all; rule r = v a - b + ; mark m = least(5)? \"{a}{b}\", r(3, 1)? \"{a}{b}\";"
            + " kind k { x : int = m(7, 8, 9, x); }");
        made.desk.paper(0);
        made.desk.setInt(0, 0, 2, true);
        Desk.due("check", made.desk.check(0, 0), 2);
        made.dueText(0, "50");
        made.dueText(1, "31");
        made.dueMisuse(0, NONE);
    }

    /** "A mark that comes to be within itself so is a RING: all uses of it hold nothing." */
    private static void ringsOfOneTwoAndThree() {
        Desk made = Desk.of("chain c : all; mark a = a; mark b = d; mark d = b; mark e = f; mark f = g; mark g = need, e;"
            + " kind k { x : int = a, b, d, e, f, g; }");
        for (int k = 0; k < 6; k++) {
            made.dueMisuse(k, 0, 0, 1, 200 + k);
        }
        made.dueMisuse(6, NONE);
        made.desk.paper(0);
        Desk.due("none holds", made.desk.check(0, 0), 0);
    }

    private static void ringsWithin() {
        // d leads into the ring of a and b, but is none itself.
        Desk made = Desk.of("chain c : all; mark d = need?, a, need?; mark a = b, need; mark b = need, a;"
            + " kind k { x : int = need?, d, need?; }");
        made.dueMisuse(0, 0, 0, 1, 201);
        made.dueMisuse(1, NONE);
        made.desk.paper(0);
        Desk.due("those beside the ring hold", made.desk.check(0, 0), 4);
    }

    private static void ringsOpenNothing() {
        Desk made = Desk.of("chain c : all; mark a = need, go, size, a; kind k { x : int = a; p : k = a; }");
        made.dueMisuse(0, 0, 0, 1, 200);
        made.dueMisuse(1, 0, 1, 1, 200);
        made.dueMisuse(2, NONE);
        made.desk.paper(0);
        Desk.due("check", made.desk.check(0, 0), 0);
    }

    /** Sixteen marks may be one within the other. */
    private static void marksWithinSixteen() {
        StringBuilder text = new StringBuilder("chain c : all;");
        for (int i = 0; i < 15; i++) {
            text.append("mark m").append(i).append(" = m").append(i + 1).append(" # ").append(i).append(';');
        }
        Desk made = Desk.of(text + "mark m15 = need ? # 15 \"in\", go; kind k { x : int = m0; y : int = m15; }");
        made.dueMisuse(0, 0, 0, 2, 2);
        made.dueMisuse(1, 0, 1, 2, 2);
        made.dueMisuse(2, NONE);
        made.desk.paper(0);
        Desk.due("check", made.desk.check(0, 0), 2);
        made.dueFound(0, 1, 1, 0, 0, 0);
        made.dueText(0, "in");
        made.dueFound(1, 1, 1, 15, 0, 1);
        Desk ring = Desk.of(text + "mark m15 = m0; kind k { x : int = m0, m15; }");
        ring.dueMisuse(0, 0, 0, 1, 200);
        ring.dueMisuse(1, 0, 0, 1, 215);
        ring.dueMisuse(2, NONE);
    }

    private static int countMisuses(Desk made, int kind, int member) {
        int count = 0;
        for (int k = 0; k < 200; k++) {
            if (made.desk.misuse(k, 0) == kind && made.desk.misuse(k, 1) == member) {
                count++;
            }
        }
        return count;
    }

    /** "100 at most at a member or * (those behind are left out)". */
    private static void hundredOpened() {
        Desk full = Desk.of("chain c : all;" + WRONG + "mark l = go, go, go, need; kind k { x : int = t, e, e, e, e, l; }");
        full.dueMisuse(98, 0, 0, 2, 2);
        full.dueMisuse(99, NONE);
        full.desk.paper(0);
        Desk.due("the 100th holds", full.desk.check(0, 0), 1);
        Desk over = Desk.of("chain c : all;" + WRONG
            + "mark l = go, go, go, go, need, size; kind k { x : int = t, e, e, e, e, l, need; y : int = need; }");
        over.dueMisuse(99, 0, 0, 2, 2);
        over.dueMisuse(100, NONE);
        over.desk.paper(0);
        Desk.due("the 101st is left out", over.desk.check(0, 0), 1);
        over.dueFound(0, 1, 0, 0, 0, 1);
    }

    private static void hundredOpenedOnStar() {
        String marks = "chain c : all; mark e = need, need, need, need, need, need, need, need; mark t = e, e, e, e, e, e, e, e;";
        Desk full = Desk.of(marks + "mark l = need, need, need, below(a, a); kind k { a : int; * = t, e, e; * = e, e, l; }");
        full.dueMisuse(98, 0, NONE, 2, 1);
        full.dueMisuse(99, NONE);
        full.desk.paper(0);
        full.desk.setInt(0, 0, 1, true);
        Desk.due("the 100th holds", full.desk.check(0, 0), 1);
        Desk over = Desk.of(marks + "mark l = need, need, need, need, below(a, a); kind k { a : int; * = t, e, e; * = e, e, l; }");
        over.dueMisuse(99, 0, NONE, 2, 1);
        over.dueMisuse(100, NONE);
        over.desk.paper(0);
        over.desk.setInt(0, 0, 1, true);
        Desk.due("the 101st is left out", over.desk.check(0, 0), 0);
    }

    /** "each use is of a rule, own or built-in, or a RING's: 100 at most". */
    private static void ringsAreOpenedUses() {
        String text = "chain c : all;" + WRONG + "mark r = r; mark s = r, r, r, need; mark u = r, r, r, r, need;";
        Desk full = Desk.of(text + "kind k { x : int = t, e, e, e, e, s; }");
        full.dueMisuse(98, 0, 0, 1, 202);
        full.dueMisuse(99, NONE);
        full.desk.paper(0);
        Desk.due("the 100th holds", full.desk.check(0, 0), 1);
        Desk over = Desk.of(text + "kind k { x : int = t, e, e, e, e, u; }");
        over.dueMisuse(99, 0, 0, 1, 202);
        over.desk.paper(0);
        Desk.due("the 101st is left out", over.desk.check(0, 0), 0);
    }

    /** "of which 40 hold at most (others hold nothing, but are no MISUSES)". */
    private static void fortyHold() {
        Desk made = Desk.of("chain c : all;" + RIGHT + "mark m = need?, need?, need?, need?, need?, need?, need?;"
            + " kind k { x : int = n, n, n, n, m, least(5)?; y : int = n, n, n, n, n, least(5)?; }");
        made.dueMisuse(0, NONE);
        made.desk.paper(0);
        Desk.due("40 each", made.desk.check(0, 0), 39 + 40);
        made.desk.setInt(0, 0, 1, true);
        made.desk.setInt(0, 1, 1, true);
        Desk.due("the 40th holds, the 41st does not", made.desk.check(0, 0), 1);
        made.dueFound(0, 3, 1, 0, 0, 0);
        Desk.due("wouldBe at the 40th", made.desk.wouldBe(0, 0, 4), 1);
        Desk.due("wouldBe at the 41st", made.desk.wouldBe(0, 1, 4), 0);
    }

    private static void fortyHoldOnStar() {
        Desk made = Desk.of("chain c : all; mark n = below(a, b)?, below(a, b)?, below(a, b)?, below(a, b)?, below(a, b)?,"
            + " below(a, b)?, below(a, b)?, below(a, b)?; mark m = n, n, n, n, n; kind k { a : int; b : int;"
            + " * = m, below(b, a)?; } kind l of k { * = below(b, a)?; }");
        made.dueMisuse(0, NONE);
        made.desk.paper(1);
        made.desk.setInt(0, 0, 2, true);
        made.desk.setInt(0, 1, 1, true);
        Desk.due("40 hold", made.desk.check(0, 0), 40);
        made.desk.setInt(0, 0, 0, true);
        Desk.due("a kind's own * has its own forty", made.desk.check(0, 0), 1);
    }

    private static void misusesAreNoneOfTheForty() {
        Desk made = Desk.of("chain c : all; mark w = need?, go, need?, go, need?, go, need?, go;" + RIGHT
            + "kind k { x : int = w, w, w, w, w, w, w, w; y : int = w, w, n, n, n, n, w, go; }");
        made.desk.paper(0);
        Desk.due("32 and 40 hold", made.desk.check(0, 0), 32 + 40);
        Desk.due("misuses of x", countMisuses(made, 0, 0), 32);
        // Also those behind the fortieth that holds.
        Desk.due("misuses of y", countMisuses(made, 0, 1), 13);
    }

    /** "2 its rule is for another type". */
    private static void rulesAndTypes() {
        String[] uses = {"r", "need", "go", "least(1)", "most(1)", "size(1,2)", "oneof(1)", "below(i,i)", "total(l,i,i)"};
        int[] rules = {100, 1, 2, 3, 4, 5, 6, 7, 8};
        String[] types = {"x : int =", "x : text =", "x : k =", "x : list k =", "* ="};
        String[] fits = {"110110100", "010001000", "011000000", "011001000", "000000011"};
        // The columns are those of the uses: own, need, go, least, most, size, oneof, below, total.
        for (int t = 0; t < types.length; t++) {
            for (int u = 0; u < uses.length; u++) {
                Desk made = Desk.of("rule r = v; kind k { i : int; l : list k; " + types[t] + " " + uses[u] + "; }");
                boolean fit = fits[t].charAt(u) == '1';
                if (fit) {
                    made.dueMisuse(0, NONE, NONE, NONE, NONE);
                } else {
                    made.dueMisuse(0, 0, t == 4 ? NONE : 2, 2, rules[u]);
                }
                made.dueMisuse(1, NONE);
            }
        }
    }

    /** "3 its args are not as told": how many. */
    private static void numbersOfArgs() {
        String[] args = {"", "(1)", "(1,2)", "(1,2,3)", "(1,2,3,4)"};
        dueArgs("x : int = r", args, "11100", 100);
        dueArgs("x : int = need", args, "10000", 1);
        dueArgs("x : k = go", args, "10000", 2);
        dueArgs("x : list k = go", args, "10000", 2);
        dueArgs("x : int = least", args, "01000", 3);
        dueArgs("x : int = most", args, "01000", 4);
        dueArgs("x : text = size", args, "00100", 5);
        dueArgs("x : list k = size", args, "00100", 5);
        dueArgs("x : int = oneof", args, "01111", 6);
        String[] below = {"", "(i)", "(i,j)", "(i,j,i)", "(i,j,i,j)"};
        dueArgs("* = below", below, "00100", 7);
        String[] total = {"", "(l)", "(l,i)", "(l,i,j)", "(l,i,j,j)"};
        dueArgs("* = total", total, "00010", 8);
    }

    private static void dueArgs(String use, String[] args, String fits, int rule) {
        for (int n = 0; n < args.length; n++) {
            Desk made = Desk.of("rule r = v; kind k { i : int; j : int; l : list k; " + use + args[n] + "; }");
            if (fits.charAt(n) == '1') {
                made.dueMisuse(0, NONE);
            } else {
                made.dueMisuse(0, 0, use.charAt(0) == '*' ? NONE : 3, 3, rule);
            }
            made.dueMisuse(1, NONE);
        }
    }

    /** "3 its args are not as told": NUMBERS or NAMES. */
    private static void sortsOfArgs() {
        String[] wrong = {"x : int = r(i)", "x : int = r(1, i)", "x : int = least(i)", "x : int = most(i)", "x : text = size(i, 2)",
            "x : text = size(1, i)", "x : int = oneof(i)", "x : int = oneof(1, 2, 3, i)", "x : int = oneof(i, 2, 3, 4)",
            "x : int = need(i)", "x : k = go(i)", "* = below(1, i)", "* = below(i, 1)", "* = total(1, i, i)", "* = total(l, 1, i)",
            "* = total(l, i, 1)"};
        for (String use : wrong) {
            Desk made = Desk.of("rule r = v; kind k { i : int; l : list k; " + use + "; }");
            Desk.due("why is a misuse: " + use, made.desk.misuse(0, 2), 3);
            made.dueMisuse(1, NONE);
        }
    }

    private static void dueStar(String use, boolean fits) {
        Desk made = Desk.of("kind top { i : int; } kind k of top { j : int; t : text; p : k; l : list low; m : list k; * = " + use
            + "; } kind low of k { n : int; }");
        Desk.due("why: " + use, made.desk.misuse(0, 2), fits ? NONE : 3);
        made.dueMisuse(1, NONE);
    }

    /** "below x y: NAMES of int members of the kind (or above)". */
    private static void membersOfBelow() {
        dueStar("below(i, j)", true);
        dueStar("below(j, i)", true);
        dueStar("below(j, j)", true);
        for (String other : new String[] {"t", "p", "l", "n", "x", "k", "top"}) {
            dueStar("below(i, " + other + ")", false);
            dueStar("below(" + other + ", j)", false);
        }
    }

    /** "total x y z: x a list member, y a NAME of an int member of that list's kind, z an int member". */
    private static void membersOfTotal() {
        dueStar("total(l, n, j)", true);
        dueStar("total(l, i, i)", true);
        dueStar("total(m, j, i)", true);
        dueStar("total(m, n, i)", false);
        for (String other : new String[] {"t", "p", "x", "k", "low"}) {
            dueStar("total(" + other + ", i, i)", false);
            dueStar("total(l, " + other + ", i)", false);
            dueStar("total(l, i, " + other + ")", false);
        }
        dueStar("total(i, i, i)", false);
        dueStar("total(l, l, i)", false);
        dueStar("total(l, i, l)", false);
        dueStar("total(l, i, n)", false);
    }

    private static void typeAheadOfArgs() {
        Desk made = Desk.of("kind k { t : text = least(1, 2), go(1), size(1); i : int = below; }");
        made.dueMisuse(0, 0, 0, 2, 3);
        made.dueMisuse(1, 0, 0, 2, 2);
        made.dueMisuse(2, 0, 0, 3, 5);
        made.dueMisuse(3, 0, 1, 2, 7);
        made.dueMisuse(4, NONE);
    }

    /** "by kinds, members (* first, then in order; those of the kind itself), uses in order, as opened". */
    private static void orderOfMisuses() {
        Desk made = Desk.of("mark m = size, least; kind a { x : int = go, m; y : text = most(1); * = need; * = go; }"
            + " kind b of a { z : int = size(1, 2); } kind c { * = least(1); }");
        int[][] want = {{0, NONE, 2, 1}, {0, NONE, 2, 2}, {0, 0, 2, 2}, {0, 0, 2, 5}, {0, 0, 3, 3}, {0, 1, 2, 4}, {1, 2, 2, 5},
            {2, NONE, 2, 3}};
        for (int k = 0; k < want.length; k++) {
            made.dueMisuse(k, want[k]);
        }
        made.dueMisuse(want.length, NONE);
    }

    /** "MISUSES (200 are kept)". */
    private static void twoHundredKept() {
        String hundred = "chain c : all;" + WRONG + "mark l = e, e, e, e; mark f = go, go, go, go; kind k {"
            + " x : int = t, l, f;";
        Desk most = Desk.of(hundred + " y : int = t, l, f; z : int = need; }");
        most.dueMisuse(99, 0, 0, 2, 2);
        most.dueMisuse(100, 0, 1, 2, 2);
        most.dueMisuse(199, 0, 1, 2, 2);
        most.dueMisuse(200, NONE, NONE, NONE, NONE);
        Desk more = Desk.of(hundred + " y : int = t, l, f; z : int = size, need; }");
        more.dueMisuse(199, 0, 1, 2, 2);
        more.dueMisuse(200, NONE, NONE, NONE, NONE);
        more.desk.paper(0);
        Desk.due("what is not kept holds nothing, too", more.desk.check(0, 0), 1);
        Desk less = Desk.of(hundred + " y : int = t, l, go, go, go; z : int = size; }");
        less.dueMisuse(198, 0, 1, 2, 2);
        less.dueMisuse(199, 0, 2, 2, 5);
        less.dueMisuse(200, NONE);
    }

    /** "are told once, when the text is taken". */
    private static void toldOnce() {
        Desk made = Desk.of("chain c : all; kind k { x : int = go, least(1); }");
        made.desk.paper(0);
        made.desk.check(0, 0);
        made.desk.check(0, 0);
        made.dueMisuse(0, 0, 0, 2, 2);
        made.dueMisuse(1, NONE);
        made.take("kind k { x : int = go, size(1, 2); } $");
        made.dueMisuse(0, 0, 0, 2, 2);
        made.dueMisuse(1, NONE);
        made.take("kind k { x : int; y : text = most, oneof(1); }");
        made.dueMisuse(0, 0, 1, 2, 4);
        made.dueMisuse(1, 0, 1, 2, 6);
        made.dueMisuse(2, NONE);
        made.take("");
        made.dueMisuse(0, NONE, NONE, NONE, NONE);
    }

    private static void noSuchMisuse() {
        CustomsDesk desk = Desk.of("kind k { x : int = go; }").desk;
        for (int what = 0; what < 4; what++) {
            Desk.due("misuse -1", desk.misuse(-1, what), NONE);
            Desk.due("misuse 1", desk.misuse(1, what), NONE);
            Desk.due("the least", desk.misuse(Integer.MIN_VALUE, what), NONE);
            Desk.due("the greatest", desk.misuse(Integer.MAX_VALUE, what), NONE);
        }
        Desk.due("what 3", desk.misuse(0, 3), 2);
        Desk.due("what 4", desk.misuse(0, 4), NONE);
        Desk.due("what -1", desk.misuse(0, -1), NONE);
    }
}
