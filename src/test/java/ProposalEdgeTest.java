/** Promise 25 and the PROPOSALS of promise 17 at their boundaries. */
public final class ProposalEdgeTest {
    private static final int NONE = CustomsDesk.NONE;
    private static final int LEAST = Integer.MIN_VALUE;
    private static final int GREATEST = Integer.MAX_VALUE;

    public static void main(String[] args) {
        leastAndMost();
        nearestOfTwo();
        nearestOfAll();
        nearestFarAway();
        onlyThreeRulesPropose();
        nothingToSet();
        withoutACheck();
        takenAlready();
        ofTheLatestCheck();
        anEarlierOne();
        anEarlierOneByAnotherGroup();
        otherPapersAndMembers();
        readByBelow();
        readByBelowThatHolds();
        readByTotal();
        readByTotalInLists();
        readOnAnotherKind();
        readThoughNothingHolds();
        theFiveHundredth();
        asItWasFound();
        takenAwayBefore();
        Desk.finish();
    }

    private static void dueProposal(String use, int v, int want) {
        Desk made = Desk.of("chain c : all; kind k { x : int = " + use + "; }");
        made.desk.paper(0);
        made.desk.setInt(0, 0, v, true);
        Desk.due(use + " at " + v, made.desk.check(0, 0), 1);
        Desk.due("there is a proposal", made.desk.found(0, 8), 1);
        Desk.due("proposal of " + use + " at " + v, made.desk.found(0, 9), want);
        Desk.due("correct", made.desk.correct(), 1);
        Desk.due("value", made.desk.value(0, 0, 1), want);
        Desk.due("then it holds", made.desk.check(0, 0), 0);
    }

    /** "For a FOUND of least, most, oneof at an int: the nearest value that the rule lets". */
    private static void leastAndMost() {
        for (int n : new int[] {-999999999, -1, 0, 999999999}) {
            dueProposal("least(" + n + ")", n - 1, n);
            dueProposal("least(" + n + ")", LEAST, n);
            dueProposal("most(" + n + ")", n + 1, n);
            dueProposal("most(" + n + ")", GREATEST, n);
        }
    }

    /** "(of two the lower)". */
    private static void nearestOfTwo() {
        dueProposal("oneof(2, 4)", 3, 2);
        dueProposal("oneof(4, 2)", 3, 2);
        dueProposal("oneof(2, 5)", 3, 2);
        dueProposal("oneof(2, 5)", 4, 5);
        dueProposal("oneof(-1, 1)", 0, -1);
        dueProposal("oneof(1, -1)", 0, -1);
        dueProposal("oneof(-999999999, 999999999)", 0, -999999999);
        dueProposal("oneof(-999999999, 999999999)", 1, 999999999);
        dueProposal("oneof(9, 9)", 3, 9);
    }

    private static void nearestOfAll() {
        dueProposal("oneof(7)", 8, 7);
        dueProposal("oneof(10, 20, 30, 40)", 34, 30);
        dueProposal("oneof(10, 20, 30, 40)", 36, 40);
        dueProposal("oneof(40, 30, 20, 10)", 35, 30);
        dueProposal("oneof(40, 10, 30, 20)", 15, 10);
        dueProposal("oneof(20, 40, 10, 30)", 11, 10);
    }

    /** How far a value is may be more than an int tells. */
    private static void nearestFarAway() {
        dueProposal("oneof(-999999999, 999999999)", GREATEST, 999999999);
        dueProposal("oneof(999999999, -999999999)", GREATEST, 999999999);
        dueProposal("oneof(-999999999, 999999999)", LEAST, -999999999);
        dueProposal("oneof(999999999, -999999999)", LEAST, -999999999);
        dueProposal("oneof(999999999)", LEAST, 999999999);
    }

    private static void onlyThreeRulesPropose() {
        Desk made = Desk.of("chain c : all; rule r = 0; rule s = 1 v 5 - /; kind k { x : int = r?, s?, least(6)?; y : int = need?;"
            + " t : text = size(1, 2)?; l : list k = size(1, 2)?, need?; * = below(x, x)?, total(l, x, x)?; }");
        made.desk.paper(0);
        made.desk.setInt(0, 0, 5, true);
        made.desk.setText(0, 2, 0, true);
        Desk.due("check", made.desk.check(0, 0), 9);
        int[] rules = {7, 8, 100, 101, 3, 1, 5, 5, 1};
        for (int k = 0; k < 9; k++) {
            Desk.due("rule " + k, made.desk.found(k, 0), rules[k]);
            Desk.due("is there one " + k, made.desk.found(k, 8), k == 4 ? 1 : 0);
            Desk.due("0 without " + k, made.desk.found(k, 9), k == 4 ? 6 : 0);
        }
    }

    private static void nothingToSet() {
        Desk made = Desk.of("chain c : all; kind k { x : int = need, least(5); }");
        made.desk.paper(0);
        Desk.due("check", made.desk.check(0, 0), 1);
        Desk.due("no proposal", made.desk.correct(), 0);
        Desk.due("nothing is there", made.desk.value(0, 0, 0), 0);
    }

    /** "NONE without a check, or if it was taken already." */
    private static void withoutACheck() {
        Desk.due("a new object", new CustomsDesk().correct(), NONE);
        String text = "chain c : all; kind k { x : int = least(5); }";
        Desk made = Desk.of(text);
        Desk.due("a text", made.desk.correct(), NONE);
        made.desk.paper(0);
        made.desk.setInt(0, 0, 1, true);
        Desk.due("no chain", made.desk.check(0, 1), NONE);
        Desk.due("a refused check", made.desk.correct(), NONE);
        made.desk.check(0, 0);
        made.take(text);
        Desk.due("a check of a text before", made.desk.correct(), NONE);
    }

    private static void takenAlready() {
        Desk made = Desk.of("chain c : all; kind k { x : int = least(5); }");
        made.desk.paper(0);
        made.desk.setInt(0, 0, 1, true);
        made.desk.check(0, 0);
        Desk.due("once", made.desk.correct(), 1);
        made.desk.setInt(0, 0, 2, true);
        Desk.due("twice", made.desk.correct(), NONE);
        Desk.due("nothing is set then", made.desk.value(0, 0, 1), 2);
        made.desk.check(1, 0);
        Desk.due("behind a refused check", made.desk.correct(), NONE);
        made.take("kind k { } kind k { }");
        Desk.due("behind a text with a FAULT", made.desk.correct(), NONE);
        made.desk.check(0, 0);
        Desk.due("behind another check", made.desk.correct(), 1);
        Desk.due("set", made.desk.value(0, 0, 1), 5);
        made.desk.check(0, 0);
        Desk.due("of none", made.desk.correct(), 0);
        Desk.due("of none, too", made.desk.correct(), NONE);
    }

    /** "correct() takes the latest check's FOUNDS". */
    private static void ofTheLatestCheck() {
        Desk made = Desk.of("chain c : all; kind k { x : int = least(5); y : int = least(5); }");
        for (int paper = 0; paper < 2; paper++) {
            made.desk.paper(0);
            made.desk.setInt(paper, 0, 1, true);
        }
        made.desk.setInt(0, 1, 1, true);
        Desk.due("two of paper 0", made.desk.check(0, 0), 2);
        Desk.due("one of paper 1", made.desk.check(1, 0), 1);
        Desk.due("one", made.desk.correct(), 1);
        Desk.due("of paper 1", made.desk.value(1, 0, 1), 5);
        Desk.due("none of paper 0", made.desk.value(0, 0, 1), 1);
        Desk.due("none of paper 0", made.desk.value(0, 1, 1), 1);
    }

    /** "but if an earlier kept FOUND with a proposal (set or not) was for the same paper and member". */
    private static void anEarlierOne() {
        Desk made = Desk.of("chain c : all; rule r = 0; kind k { x : int = r, most(3), least(8), oneof(1, 2); }");
        made.desk.paper(0);
        made.desk.setInt(0, 0, 5, true);
        Desk.due("check", made.desk.check(0, 0), 4);
        int[] proposals = {0, 3, 8, 2};
        for (int k = 0; k < 4; k++) {
            Desk.due("proposal " + k, made.desk.found(k, 9), proposals[k]);
        }
        Desk.due("the first one alone", made.desk.correct(), 1);
        Desk.due("value", made.desk.value(0, 0, 1), 3);
    }

    private static void anEarlierOneByAnotherGroup() {
        Desk made = Desk.of("group g; chain c : g, all; kind k { x : int = least(8)?, least(6)? @ g; }");
        made.desk.paper(0);
        made.desk.setInt(0, 0, 5, true);
        Desk.due("check", made.desk.check(0, 0), 2);
        Desk.due("correct", made.desk.correct(), 1);
        Desk.due("that of the first group", made.desk.value(0, 0, 1), 6);
        Desk.due("the next check", made.desk.check(0, 0), 1);
        Desk.due("correct", made.desk.correct(), 1);
        Desk.due("that of the second one", made.desk.value(0, 0, 1), 8);
    }

    private static void otherPapersAndMembers() {
        Desk made = Desk.of("chain c : all; kind k { x : int = least(8); y : int = least(9), most(0); l : list k = go; }");
        for (int paper = 0; paper < 3; paper++) {
            made.desk.paper(0);
            made.desk.setInt(paper, 0, paper, true);
            made.desk.setInt(paper, 1, 5, true);
            made.desk.item(0, 2, paper);
        }
        Desk.due("check", made.desk.check(0, 0), 9);
        Desk.due("one of each member of each paper", made.desk.correct(), 6);
        for (int paper = 0; paper < 3; paper++) {
            Desk.due("x", made.desk.value(paper, 0, 1), 8);
            Desk.due("y", made.desk.value(paper, 1, 1), 9);
        }
    }

    /** Asks which of the first int members of a paper, which all are to be 9, are set. */
    private static void dueSet(Desk made, int paper, String set) {
        int members = set.length();
        int count = 0;
        for (int member = 0; member < members; member++) {
            made.desk.setInt(paper, member, member, true);
            count += set.charAt(member) == '1' ? 1 : 0;
        }
        made.desk.check(paper, 0);
        Desk.due("how many of " + set, made.desk.correct(), count);
        for (int member = 0; member < members; member++) {
            Desk.due("member " + member, made.desk.value(paper, member, 1), set.charAt(member) == '1' ? 9 : member);
        }
    }

    private static final String INTS = "a : int = least(9)?; b : int = least(9)?; d : int = least(9)?;";

    /** "or a below or total on a kind of the paper reads this member". */
    private static void readByBelow() {
        Desk made = Desk.of("chain c : all; kind k {" + INTS + "* = below(d, a)?; } kind l of k { e : int = least(9)?;"
            + " * = below(e, b)?; } kind m of l { }");
        made.desk.paper(0);
        made.desk.paper(1);
        made.desk.paper(2);
        dueSet(made, 0, "010");
        dueSet(made, 1, "0000");
        dueSet(made, 2, "0000");
    }

    /** "(whether it holds or not ..". */
    private static void readByBelowThatHolds() {
        Desk made = Desk.of("group g; chain c : all; kind k {" + INTS + "* = below(a, b), below(d, d) @ g; }");
        made.desk.paper(0);
        dueSet(made, 0, "000");
        Desk.due("below holds", made.desk.check(0, 0), 3);
    }

    private static void readByTotal() {
        Desk made = Desk.of("chain c : all; kind k {" + INTS + "l : list r; * = total(l, n, b)?; } kind r { n : int; } kind m of k { }");
        made.desk.paper(0);
        made.desk.paper(2);
        dueSet(made, 0, "101");
        dueSet(made, 1, "101");
    }

    /** "total's y in the papers of the list's kind, too". */
    private static void readByTotalInLists() {
        Desk made = Desk.of("chain c : all; kind top {" + INTS + "} kind r of top { e : int = least(9)?; } kind s of r { }"
            + " kind k { l : list r; z : int; * = total(l, b, z), total(l, e, z); } kind o of top { }");
        for (int kind = 0; kind < 3; kind++) {
            made.desk.paper(kind);
        }
        made.desk.paper(4);
        dueSet(made, 0, "111");
        dueSet(made, 1, "1010");
        dueSet(made, 2, "1010");
        dueSet(made, 3, "111");
        Desk other = Desk.of("chain c : all; kind o { } kind p { } kind k { l : list r; z : int; * = total(l, b, z); } kind q {"
            + INTS + "} kind r {" + INTS + "}");
        other.desk.paper(3);
        other.desk.paper(4);
        dueSet(other, 0, "111");
        dueSet(other, 1, "101");
    }

    private static void readOnAnotherKind() {
        Desk made = Desk.of("chain c : all; kind k {" + INTS + "} kind l of k { * = below(a, b); } kind o {" + INTS
            + "* = below(d, d); }");
        for (int kind = 0; kind < 3; kind++) {
            made.desk.paper(kind);
        }
        dueSet(made, 0, "111");
        dueSet(made, 1, "001");
        dueSet(made, 2, "110");
    }

    /** What a use reads it reads also where other members of it are not there. */
    private static void readThoughNothingHolds() {
        Desk made = Desk.of("chain c : all; kind k { a : int = least(9)?; b : int; l : list k; * = below(a, b); }");
        made.desk.paper(0);
        dueSet(made, 0, "0");
    }

    /** "an earlier kept FOUND": 500 are kept. */
    private static void theFiveHundredth() {
        for (int kept = 499; kept <= 501; kept++) {
            Desk made = withProposalAt(kept);
            Desk.due("correct of the " + kept + "th", made.desk.correct(), kept <= 500 ? 1 : 0);
            Desk.due("value", made.desk.value(12, 2, 1), kept <= 500 ? 9 : 1);
        }
    }

    /** A desk with a check whose first FOUND with a proposal is the so manieth one. */
    private static Desk withProposalAt(int place) {
        StringBuilder needs = new StringBuilder("n, n");
        for (int i = 480 + 16; i < place - 1; i++) {
            needs.append(", need?");
        }
        Desk made = Desk.of("chain c : all; mark n = need?, need?, need?, need?, need?, need?, need?, need?;"
            + " kind k { x : int = n, n, n, n, n; w : int = " + needs + "; y : int = least(9)?, least(8)?; l : list k = go; }");
        for (int i = 0; i < 13; i++) {
            made.desk.paper(0);
            made.desk.setInt(i, 1, 1, true);
            if (i > 0) {
                made.desk.item(0, 3, i);
            }
        }
        made.desk.setInt(12, 0, 1, true);
        made.desk.setInt(12, 1, 1, false);
        made.desk.setInt(12, 2, 1, true);
        Desk.due("check", made.desk.check(0, 0), place + 1);
        Desk.due("the first proposal", made.desk.found(place - 1, 9), place <= 500 ? 9 : NONE);
        return made;
    }

    /** "What the value was counts for each as it was found." */
    private static void asItWasFound() {
        Desk made = Desk.of("chain c : all; kind k { x : int = oneof(1, 10)? \"{v}\"; }");
        made.desk.paper(0);
        made.desk.setInt(0, 0, 9, true);
        made.desk.check(0, 0);
        made.desk.setInt(0, 0, 2, true);
        Desk.due("proposal", made.desk.found(0, 9), 10);
        made.dueText(0, "9");
        Desk.due("correct", made.desk.correct(), 1);
        Desk.due("value", made.desk.value(0, 0, 1), 10);
        Desk.due("proposal", made.desk.found(0, 9), 10);
        made.dueText(0, "9");
    }

    private static void takenAwayBefore() {
        Desk made = Desk.of("chain c : all; kind k { x : int = least(5); }");
        made.desk.paper(0);
        made.desk.setInt(0, 0, 1, true);
        made.desk.check(0, 0);
        made.desk.setInt(0, 0, 0, false);
        Desk.due("correct", made.desk.correct(), 1);
        Desk.due("it is there again", made.desk.value(0, 0, 0), 1);
        Desk.due("value", made.desk.value(0, 0, 1), 5);
    }
}
