/** Promises 16 to 19, 22 and 23 at their boundaries: what holds, what is kept, and where a CHECK ends. */
public final class CheckEdgeTest {
    private static final int NONE = CustomsDesk.NONE;
    private static final int LEAST = Integer.MIN_VALUE;
    private static final int GREATEST = Integer.MAX_VALUE;
    private static final String EIGHT = "mark n = need?, need?, need?, need?, need?, need?, need?, need?;";

    public static void main(String[] args) {
        needs();
        leastAndMost();
        oneOf();
        sizesOfTexts();
        sizesOfLists();
        below();
        belowWithoutOne();
        totals();
        totalsAsLongs();
        totalOfItself();
        emptyPapersAndChains();
        takenInGroups();
        eightGroupsInARow();
        groupWithAnErrorIsGoneThrough();
        onlyErrorsEndAChain();
        usesFromTheTopmostKind();
        usesBeforePapers();
        goThatHolds();
        eachPaperOnceAGroup();
        stepsOfAWay();
        greatestStep();
        fortyStepsKept();
        fiveHundredFounds();
        foundsOfTheLatestCheck();
        eightyBytes();
        numbersInTexts();
        otherBraces();
        sixtyCuts();
        fiveThousandAskings();
        lastAskingInTheNextGroup();
        askingsThatHoldCount();
        askingsPassedOverCount();
        allPapersByAllGroups();
        noSuchFound();
        Desk.finish();
    }

    private static void dueCheck(String what, Desk made, int want) {
        Desk.due(what, made.desk.check(0, 0), want);
    }

    /** A desk with a paper whose first member is an int with these uses. */
    private static Desk withInt(String uses) {
        Desk made = Desk.of("chain c : all; kind k { x : int = " + uses + "; }");
        made.desk.paper(0);
        return made;
    }

    private static void dueAt(Desk made, int v, int want) {
        made.desk.setInt(0, 0, v, true);
        dueCheck("check at " + v, made, want);
    }

    /** "need: it is there (a list: one paper at least)". */
    private static void needs() {
        Desk made = Desk.of("chain c : all; kind k { i : int = need?; t : text = need?; p : k = need?; l : list k = need?; }");
        CustomsDesk desk = made.desk;
        desk.paper(0);
        dueCheck("nothing", made, 4);
        desk.setInt(0, 0, 0, true);
        dueCheck("an int of 0 is there", made, 3);
        made.dueFound(0, 1, 1, 0, 0, 1);
        desk.setText(0, 1, 0, true);
        dueCheck("a text without letters is there", made, 2);
        made.dueFound(0, 1, 1, 0, 0, 2);
        desk.link(0, 2, 0);
        dueCheck("paper 0 is there", made, 1);
        made.dueFound(0, 1, 1, 0, 0, 3);
        desk.item(0, 3, 0);
        dueCheck("a list with one paper", made, 0);
        desk.setInt(0, 0, 0, false);
        desk.setText(0, 1, 0, false);
        desk.link(0, 2, NONE);
        dueCheck("taken away", made, 3);
    }

    /** "least, most: not below, above n". */
    private static void leastAndMost() {
        for (int n : new int[] {-999999999, -1, 0, 1, 999999999}) {
            Desk least = withInt("least(" + n + ")");
            dueCheck("what is not there holds", least, 0);
            dueAt(least, n - 1, 1);
            dueAt(least, n, 0);
            dueAt(least, n + 1, 0);
            dueAt(least, LEAST, 1);
            dueAt(least, GREATEST, 0);
            Desk most = withInt("most(" + n + ")");
            dueCheck("what is not there holds", most, 0);
            dueAt(most, n - 1, 0);
            dueAt(most, n, 0);
            dueAt(most, n + 1, 1);
            dueAt(most, LEAST, 0);
            dueAt(most, GREATEST, 1);
        }
    }

    /** "oneof: one of these". */
    private static void oneOf() {
        String[] args = {"3", "3, -7", "3, -7, 9", "3, -7, 9, 0"};
        int[] numbers = {3, -7, 9, 0};
        for (int n = 0; n < 4; n++) {
            Desk made = withInt("oneof(" + args[n] + ")");
            dueCheck("what is not there holds", made, 0);
            for (int i = 0; i < 4; i++) {
                dueAt(made, numbers[i], i <= n ? 0 : 1);
                dueAt(made, numbers[i] + 1, 1);
                dueAt(made, numbers[i] - 1, 1);
            }
        }
        dueAt(withInt("oneof(5, 5)"), 5, 0);
    }

    /** "size: how many letters, papers: n to m". */
    private static void sizesOfTexts() {
        int[][] bounds = {{2, 3}, {0, 0}, {8, 8}, {0, 8}, {3, 2}, {-5, 1}, {9, 20}};
        for (int[] row : bounds) {
            Desk made = Desk.of("chain c : all; kind k { t : text = size(" + row[0] + ", " + row[1] + "); }");
            made.desk.paper(0);
            dueCheck("what is not there holds", made, 0);
            for (int letters = 0; letters <= 8; letters++) {
                made.desk.setText(0, 0, Desk.name("x".repeat(letters)), true);
                dueCheck(letters + " letters", made, letters >= row[0] && letters <= row[1] ? 0 : 1);
            }
        }
    }

    private static void sizesOfLists() {
        Desk made = Desk.of("chain c : all; kind k { l : list k = size(0, 0)?; m : list k = size(1, 19)?;"
            + " n : list k = size(20, 20)?; }");
        made.desk.paper(0);
        for (int papers = 0; papers <= 20; papers++) {
            int want = (papers == 0 ? 0 : 1) + (papers >= 1 && papers <= 19 ? 0 : 1) + (papers == 20 ? 0 : 1);
            dueCheck(papers + " papers", made, want);
            for (int member = 0; member < 3; member++) {
                made.desk.item(0, member, 0);
            }
        }
    }

    /** "below: both are there, x < y". */
    private static void below() {
        Desk made = Desk.of("chain c : all; kind k { x : int; y : int; * = below(x, y); }");
        made.desk.paper(0);
        int[][] pairs = {{0, 1, 0}, {0, 0, 1}, {1, 0, 1}, {LEAST, GREATEST, 0}, {GREATEST, LEAST, 1}, {LEAST, LEAST, 1},
            {GREATEST, GREATEST, 1}, {LEAST, LEAST + 1, 0}, {GREATEST - 1, GREATEST, 0}, {-1, 0, 0}};
        for (int[] pair : pairs) {
            made.desk.setInt(0, 0, pair[0], true);
            made.desk.setInt(0, 1, pair[1], true);
            dueCheck(pair[0] + " below " + pair[1], made, pair[2]);
        }
    }

    private static void belowWithoutOne() {
        Desk made = Desk.of("chain c : all; kind k { x : int; y : int; * = below(x, y); }");
        made.desk.paper(0);
        dueCheck("without both", made, 0);
        made.desk.setInt(0, 0, 5, true);
        dueCheck("without y", made, 0);
        made.desk.setInt(0, 0, 0, false);
        made.desk.setInt(0, 1, -5, true);
        dueCheck("without x", made, 0);
        made.desk.setInt(0, 0, 0, true);
        dueCheck("with both", made, 1);
    }

    private static Desk withTotal(int papers) {
        Desk made = Desk.of("chain c : all; kind k { l : list r; z : int; * = total(l, y, z); } kind r { y : int; }"
            + " kind s of r { }");
        made.desk.paper(0);
        for (int i = 1; i <= papers; i++) {
            made.desk.paper(1 + i % 2);
            made.desk.item(0, 0, i);
        }
        return made;
    }

    private static void dueTotal(Desk made, int z, int want) {
        made.desk.setInt(0, 1, z, true);
        dueCheck("total at " + z, made, want);
    }

    /** "total: all there: z is the sum (as longs) of y of the list's papers (those without y count 0)". */
    private static void totals() {
        Desk none = withTotal(0);
        dueCheck("without z", none, 0);
        dueTotal(none, 0, 0);
        dueTotal(none, 1, 1);
        dueTotal(none, -1, 1);
        Desk two = withTotal(2);
        dueTotal(two, 0, 0);
        dueTotal(two, 1, 1);
        two.desk.setInt(1, 0, 7, true);
        dueTotal(two, 7, 0);
        dueTotal(two, 6, 1);
        dueTotal(two, 8, 1);
        two.desk.setInt(2, 0, -9, true);
        dueTotal(two, -2, 0);
        two.desk.setInt(1, 0, 7, false);
        dueTotal(two, -9, 0);
        dueTotal(two, -2, 1);
        two.desk.item(0, 0, 2);
        dueTotal(two, -18, 0);
        two.desk.setInt(0, 1, 0, false);
        dueCheck("without z", two, 0);
        Desk twenty = withTotal(20);
        for (int i = 1; i <= 20; i++) {
            twenty.desk.setInt(i, 0, i, true);
        }
        dueTotal(twenty, 210, 0);
        dueTotal(twenty, 190, 1);
    }

    private static void totalsAsLongs() {
        Desk made = withTotal(2);
        made.desk.setInt(1, 0, GREATEST, true);
        made.desk.setInt(2, 0, 1, true);
        // As an int it would be this.
        dueTotal(made, LEAST, 1);
        made.desk.setInt(2, 0, 0, true);
        dueTotal(made, GREATEST, 0);
        made.desk.setInt(2, 0, GREATEST, true);
        dueTotal(made, -2, 1);
        made.desk.setInt(2, 0, LEAST, true);
        dueTotal(made, -1, 0);
        made.desk.setInt(1, 0, LEAST, true);
        dueTotal(made, 0, 1);
        Desk twenty = withTotal(20);
        for (int i = 1; i <= 20; i++) {
            twenty.desk.setInt(i, 0, LEAST, true);
        }
        dueTotal(twenty, 0, 1);
    }

    private static void totalOfItself() {
        Desk made = Desk.of("chain c : all; kind k { l : list k; y : int; z : int; * = total(l, y, z); }");
        made.desk.paper(0);
        made.desk.item(0, 0, 0);
        made.desk.setInt(0, 1, 5, true);
        made.desk.setInt(0, 2, 5, true);
        dueCheck("paper 0 counts", made, 0);
        made.desk.item(0, 0, 0);
        dueCheck("once for each place", made, 1);
        made.desk.setInt(0, 2, 10, true);
        dueCheck("twice", made, 0);
    }

    private static void emptyPapersAndChains() {
        Desk made = Desk.of("group g; chain c : g; kind k { }");
        made.desk.paper(0);
        Desk.due("no check yet", made.desk.groups(), NONE);
        dueCheck("a paper without members", made, 0);
        Desk.due("groups", made.desk.groups(), 1);
        Desk.due("no found", made.desk.found(0, 0), NONE);
        Desk.due("correct", made.desk.correct(), 0);
        Desk.due("no chain", made.desk.check(0, 1), NONE);
    }

    /** "a use is of a group if its group is that one, or one that it takes in, at any depth". */
    private static void takenInGroups() {
        Desk made = Desk.of("group a : all; group b; group d : a, b; group e; group f : d; group h : e, e; chain ca : all;"
            + " chain cb : a; chain cc : b; chain cd : d; chain ce : e; chain cf : f; kind k { x : int = need? # 1,"
            + " need? @ a # 2, need? @ b # 3, need? @ d # 4, need? @ e # 5, need? @ f # 6, need? @ h # 7; }");
        made.desk.paper(0);
        int[][] payloads = {{1}, {1, 2}, {3}, {1, 2, 3, 4}, {5}, {1, 2, 3, 4, 6}};
        for (int chain = 0; chain < 6; chain++) {
            Desk.due("by chain " + chain, made.desk.check(0, chain), payloads[chain].length);
            for (int k = 0; k < payloads[chain].length; k++) {
                Desk.due("payload", made.desk.found(k, 2), payloads[chain][k]);
            }
        }
        // A chain's row ahead of a group is none of the group's.
        Desk other = Desk.of("group a; chain c : a, all; group b; chain d : b; kind k { x : int = need, need @ a; }");
        other.desk.paper(0);
        Desk.due("by a group that takes in none", other.desk.check(0, 1), 0);
    }

    /** "How many groups the latest check went through; NONE without one." */
    private static void eightGroupsInARow() {
        Desk made = Desk.of(Desk.numbered(7, "group g#;") + "chain c : all,g0,g1,g2,g3,g4,g5,g6; chain d : g6; kind k {"
            + " x : int = need?, need? @ g0, need? @ g1, need? @ g2, need? @ g3, need? @ g4, need? @ g5, need @ g6;"
            + " y : int = need @ g3; }");
        CustomsDesk desk = made.desk;
        desk.paper(0);
        Desk.due("groups without a check", desk.groups(), NONE);
        dueCheck("an error by the fifth", made, 6);
        Desk.due("groups", desk.groups(), 5);
        desk.setInt(0, 1, 0, true);
        dueCheck("an error by the last", made, 8);
        Desk.due("groups", desk.groups(), 8);
        desk.setInt(0, 0, 0, true);
        dueCheck("none", made, 0);
        Desk.due("groups", desk.groups(), 8);
        Desk.due("one group", desk.check(0, 1), 0);
        Desk.due("groups", desk.groups(), 1);
        desk.check(0, 2);
        Desk.due("of a refused check none", desk.groups(), 1);
    }

    /** "Behind the first group by which an error was told (kept or not) there is no other group." */
    private static void groupWithAnErrorIsGoneThrough() {
        Desk made = Desk.of("group g; chain c : all, g; kind k { x : int = need!, need?; p : k = go, need!;"
            + " y : int = need!, need? @ g; }");
        made.desk.paper(0);
        made.desk.paper(0);
        made.desk.link(0, 1, 1);
        dueCheck("all uses and papers of the group", made, 3 + 4);
        Desk.due("groups", made.desk.groups(), 1);
    }

    private static void onlyErrorsEndAChain() {
        Desk made = Desk.of("group g; chain c : all, g, all; chain d : g, all; kind k { x : int = need?, need? @ g;"
            + " y : int = least(5) @ g; }");
        made.desk.paper(0);
        dueCheck("warnings", made, 3);
        Desk.due("groups", made.desk.groups(), 3);
        made.desk.setInt(0, 1, 4, true);
        dueCheck("an error by the second", made, 3);
        Desk.due("groups", made.desk.groups(), 2);
        Desk.due("an error by the first", made.desk.check(0, 1), 2);
        Desk.due("groups", made.desk.groups(), 1);
    }

    /** "then, behind all uses of all its members, for each member with a go that holds". */
    private static void usesBeforePapers() {
        Desk made = Desk.of("chain c : all; kind k { p : k = go, need?; l : list k = need?, go; x : int = need?;"
            + " * = below(x, x)?; }");
        CustomsDesk desk = made.desk;
        for (int i = 0; i < 4; i++) {
            desk.paper(0);
        }
        desk.item(0, 1, 1);
        desk.item(0, 1, 2);
        desk.link(0, 0, 3);
        desk.setInt(2, 2, 1, true);
        dueCheck("check", made, 1 + 3 + 3 + 3);
        int[][] want = {{1, 0, 2}, {1, 3, 0}, {1, 3, 1}, {1, 3, 2}, {1, 1, 0}, {1, 1, 1}, {1, 1, 2}, {7, 2, NONE}, {1, 2, 0},
            {1, 2, 1}};
        for (int k = 0; k < want.length; k++) {
            made.dueFound(k, want[k][0], 1, 0, want[k][1], want[k][2], 0);
        }
    }

    private static void dueGone(String uses, boolean goes) {
        Desk made = Desk.of("chain c : all; mark r = r, go; mark m = go(1); mark n = go; rule o = v; kind k { p : k = " + uses
            + "; l : list k = " + uses + "; x : int = need?; }");
        for (int paper = 0; paper < 3; paper++) {
            made.desk.paper(0);
        }
        made.desk.link(0, 0, 1);
        made.desk.item(0, 1, 2);
        dueCheck("gone by " + uses, made, goes ? 3 : 1);
    }

    /** "for each member with a go that holds (in any group)". */
    private static void goThatHolds() {
        dueGone("go", true);
        dueGone("n", true);
        dueGone("go, go", true);
        dueGone("go ? # 1 \"x\"", true);
        dueGone("need", false);
        dueGone("go(1)", false);
        dueGone("go(x)", false);
        dueGone("m", false);
        dueGone("r", false);
        dueGone("m, r, go(1), n", true);
    }

    /** "* uses of the topmost kind first, then downwards; then member by member, uses in order". */
    private static void usesFromTheTopmostKind() {
        Desk made = Desk.of("chain c : all; kind a { x : int = need? # 4; * = below(y, y)? # 1; y : int = most(0)? # 5, most(1)? # 6; }"
            + " kind b of a { z : int = need? # 7; * = below(y, y)? # 2; } kind d of b { * = below(y, y)? # 3; w : int = need? # 8; }");
        made.desk.paper(2);
        made.desk.setInt(0, 1, 5, true);
        dueCheck("check", made, 8);
        for (int k = 0; k < 8; k++) {
            Desk.due("payload", made.desk.found(k, 2), k + 1);
        }
        made.desk.paper(1);
        made.desk.setInt(1, 1, 5, true);
        Desk.due("a paper of the kind above", made.desk.check(1, 0), 6);
        int[] want = {1, 2, 4, 5, 6, 7};
        for (int k = 0; k < 6; k++) {
            Desk.due("payload", made.desk.found(k, 2), want[k]);
        }
    }

    /** "each paper once a group (met again, the checked one, too, it is CUT), also where the group has no use". */
    private static void eachPaperOnceAGroup() {
        Desk made = Desk.of("group g; chain c : g; chain d : g, all, g; kind k { p : k = go; q : k = go @ g; x : int = need?; }");
        CustomsDesk desk = made.desk;
        desk.paper(0);
        desk.paper(0);
        desk.link(0, 0, 0);
        desk.link(0, 1, 1);
        desk.link(1, 0, 1);
        desk.link(1, 1, 0);
        dueCheck("no use", made, 0);
        int[] cuts = {0, 1, 0};
        for (int k = 0; k < 3; k++) {
            Desk.due("cut", desk.cut(k), cuts[k]);
        }
        Desk.due("cut 3", desk.cut(3), NONE);
        Desk.due("by three groups", desk.check(0, 1), 2);
        for (int k = 0; k < 9; k++) {
            Desk.due("cut", desk.cut(k), cuts[k % 3]);
        }
        Desk.due("cut 9", desk.cut(9), NONE);
        Desk.due("from the other paper", desk.check(1, 0), 0);
        int[] others = {1, 0, 1};
        for (int k = 0; k < 3; k++) {
            Desk.due("cut", desk.cut(k), others[k]);
        }
        Desk.due("cut -1", desk.cut(-1), NONE);
    }

    /** "from the checked paper on each step member * 100 + place in the list (0 for a kind's)". */
    private static void stepsOfAWay() {
        Desk made = Desk.of("chain c : all; kind k { x : int = need?; p : k = go; l : list k = go; }");
        CustomsDesk desk = made.desk;
        for (int i = 0; i < 6; i++) {
            desk.paper(0);
            desk.setInt(i, 0, 1, true);
        }
        desk.setInt(5, 0, 1, false);
        // 0 -l[0]-> 1, -l[1]-> 2 -p-> 3 -l[2]-> 4 -l[0]-> 5.
        desk.item(0, 2, 1);
        desk.item(0, 2, 2);
        desk.link(2, 1, 3);
        desk.item(3, 2, 3);
        desk.item(3, 2, 3);
        desk.item(3, 2, 4);
        desk.item(4, 2, 5);
        dueCheck("check", made, 1);
        made.dueFound(0, 1, 1, 0, 5, 0, 0, 4);
        int[] way = {201, 100, 202, 200};
        for (int i = 0; i < 4; i++) {
            Desk.due("step " + i, desk.way(0, i), way[i]);
        }
        for (int wrong : new int[] {LEAST, -1, 4, GREATEST}) {
            Desk.due("step " + wrong, desk.way(0, wrong), NONE);
        }
        Desk.due("from paper 3", desk.check(3, 0), 1);
        Desk.due("steps", desk.found(0, 6), 2);
        Desk.due("step 0", desk.way(0, 0), 202);
        Desk.due("step 1", desk.way(0, 1), 200);
        Desk.due("from itself", desk.check(5, 0), 1);
        Desk.due("steps", desk.found(0, 6), 0);
        Desk.due("step 0", desk.way(0, 0), NONE);
    }

    private static void greatestStep() {
        Desk made = Desk.of("chain c : all; kind k {" + Desk.numbered(10, "m#:int;") + "x : int = need?; l : list k = go; }");
        made.desk.paper(0);
        made.desk.paper(0);
        made.desk.setInt(0, 10, 1, true);
        for (int i = 0; i < 19; i++) {
            made.desk.item(0, 11, 0);
        }
        made.desk.item(0, 11, 1);
        dueCheck("check", made, 1);
        Desk.due("the 20th place of the twelfth member", made.desk.way(0, 0), 1119);
    }

    /** "40 at most are kept": the first ones, from the checked paper on. */
    private static void fortyStepsKept() {
        Desk made = Desk.of("chain c : all; kind k { x : int = most(0)?; l : list k = go; }");
        CustomsDesk desk = made.desk;
        for (int i = 0; i < 46; i++) {
            desk.paper(0);
        }
        for (int i = 0; i < 45; i++) {
            for (int cut = 0; cut < i % 3; cut++) {
                desk.item(i, 1, i);
            }
            desk.item(i, 1, i + 1);
        }
        int[] last = {39, 40, 41, 45};
        for (int paper : last) {
            desk.setInt(paper, 0, 1, true);
        }
        dueCheck("check", made, last.length);
        for (int k = 0; k < last.length; k++) {
            int kept = Math.min(last[k], 40);
            for (int i = 0; i < kept; i += 13) {
                Desk.due("step " + i + " of found " + k, desk.way(k, i), 100 + i % 3);
            }
            Desk.due("the last one kept", desk.way(k, kept - 1), 100 + (kept - 1) % 3);
            Desk.due("the next one", desk.way(k, kept), NONE);
        }
    }

    /** A desk whose papers, 25 of them, have 20 FOUNDS each; the last one that is met has some more. */
    private static Desk withFounds(String more) {
        Desk made = Desk.of("chain c : all;" + EIGHT + "mark f = need?, need?, need?, need?;"
            + " kind k { x : int = n, n, f; l : list k = go; } kind j of k { y : int" + more + "; }");
        for (int i = 0; i < 25; i++) {
            made.desk.paper(i == 20 ? 1 : 0);
        }
        for (int i = 21; i < 25; i++) {
            made.desk.item(1, 1, i);
        }
        for (int i = 1; i <= 20; i++) {
            made.desk.item(0, 1, i);
        }
        return made;
    }

    /** "500 at most are kept, others counted". */
    private static void fiveHundredFounds() {
        Desk full = withFounds("");
        dueCheck("500", full, 500);
        full.dueFound(499, 1, 1, 0, 20, 0, 0, 1, 0, 0, 0);
        full.dueFound(500, NONE, NONE, NONE, NONE, NONE, NONE, NONE, NONE, NONE, NONE);
        Desk.due("way of the last", full.desk.way(499, 0), 119);
        Desk over = withFounds(" = need \"x\"");
        dueCheck("501", over, 501);
        over.dueFound(499, 1, 1, 0, 20, 0, 0, 1, 0, 0, 0);
        over.dueFound(500, NONE, NONE, NONE, NONE, NONE, NONE, NONE, NONE, NONE, NONE);
        Desk.due("way of one not kept", over.desk.way(500, 0), NONE);
        Desk.due("text of one not kept", over.desk.text(500, 0), NONE);
    }

    private static void foundsOfTheLatestCheck() {
        Desk made = Desk.of("chain c : all; kind k { x : int = need \"a\", need; p : k = go; }");
        CustomsDesk desk = made.desk;
        desk.paper(0);
        desk.paper(0);
        desk.link(0, 1, 0);
        dueCheck("two", made, 2);
        Desk.due("cut", desk.cut(0), 0);
        desk.setInt(1, 0, 1, true);
        Desk.due("none", desk.check(1, 0), 0);
        Desk.due("found", desk.found(0, 0), NONE);
        Desk.due("found", desk.found(1, 0), NONE);
        Desk.due("text", desk.text(0, 0), NONE);
        Desk.due("cut", desk.cut(0), NONE);
    }

    private static void dueBytes(String string, int v, String want) {
        Desk made = withInt("most(" + -999999999 + ")? \"" + string + "\"");
        made.desk.setInt(0, 0, v, true);
        dueCheck("check", made, 1);
        Desk.due("bytes of " + string, made.desk.found(0, 7), want.length());
        made.dueText(0, want);
        Desk.due("byte " + want.length(), made.desk.text(0, want.length()), NONE);
        for (int wrong : new int[] {LEAST, -1, 80, GREATEST}) {
            Desk.due("byte " + wrong, made.desk.text(0, wrong), NONE);
        }
    }

    /** "80 bytes at most are kept". */
    private static void eightyBytes() {
        String seven = "2147483647".repeat(7);
        dueBytes("", 0, "");
        dueBytes("x", 0, "x");
        dueBytes("x".repeat(30), 0, "x".repeat(30));
        dueBytes("{v}".repeat(7) + "abcdefghi", GREATEST, seven + "abcdefghi");
        dueBytes("{v}".repeat(8), GREATEST, seven + "2147483647");
        dueBytes("{v}".repeat(8) + "a", GREATEST, seven + "2147483647");
        dueBytes("a" + "{v}".repeat(8), GREATEST, "a" + seven + "214748364");
        dueBytes("{v}".repeat(10), GREATEST, seven + "2147483647");
        dueBytes("{v}".repeat(9) + "abc", 7, "777777777abc");
    }

    private static void dueShown(String string, String uses, int v, String want) {
        Desk made = Desk.of("chain c : all; rule r = 0; kind k { x : int = " + uses + " \"" + string + "\"; }");
        made.desk.paper(0);
        made.desk.setInt(0, 0, v, true);
        dueCheck("check", made, 1);
        made.dueText(0, want);
    }

    /** "{v}: the int .., 0 of nothing and of *; {a}, {b}: the first two args, 0 without or of a NAME". */
    private static void numbersInTexts() {
        dueShown("{v} {a} {b}", "r", GREATEST, "2147483647 0 0");
        dueShown("{v} {a} {b}", "r", -1, "-1 0 0");
        dueShown("{v} {a} {b}", "r(1)", 0, "0 1 0");
        dueShown("{b} {a} {v}", "r(-999999999, 999999999)", 5, "999999999 -999999999 5");
        dueShown("{v} {a} {b}", "oneof(1, 2, 3, 4)", 5, "5 1 2");
        dueShown("{v} {a} {b}", "least(6)", 5, "5 6 0");
        Desk made = Desk.of("chain c : all; kind k { i : int = need? \"{v}\"; t : text = size(1, 2)? \"{v}{a}{b}\";"
            + " p : k = need? \"{v}\"; l : list k = size(2, 3)? \"{v}{a}{b}\"; j : int; * = below(j, j)? \"{v}{a}{b}\","
            + " total(l, j, j)? \"{v}{a}{b}\"; }");
        made.desk.paper(0);
        made.desk.setText(0, 1, 0, true);
        made.desk.setInt(0, 4, 7, true);
        dueCheck("check", made, 6);
        String[] want = {"000", "000", "0", "012", "0", "023"};
        for (int k = 0; k < 6; k++) {
            made.dueText(k, want[k]);
        }
        made.desk.setText(0, 1, Desk.name("abcdefgh"), true);
        for (int i = 0; i < 20; i++) {
            made.desk.item(0, 3, 0);
        }
        dueCheck("check", made, 6);
        made.dueText(3, "812");
        made.dueText(5, "2023");
    }

    /** "other { and } stay". */
    private static void otherBraces() {
        dueShown("{}{c}{vv}{V}{ v}{v }", "r", 5, "{}{c}{vv}{V}{ v}{v }");
        dueShown("{{v}}{{a}", "r(3)", 5, "{5}{3");
        dueShown("{", "r", 5, "{");
        dueShown("}", "r", 5, "}");
        dueShown("{v", "r", 5, "{v");
        dueShown("v}", "r", 5, "v}");
        dueShown("{v{v}", "r", 5, "{v5");
        dueShown("v a b", "r", 5, "v a b");
    }

    /** "NONE (60 are kept)". */
    private static void sixtyCuts() {
        Desk made = Desk.of("chain c : all; kind k { l : list k = go; m : list k = go; n : list k = go; o : list k = go; }");
        CustomsDesk desk = made.desk;
        desk.paper(0);
        desk.paper(0);
        for (int i = 0; i < 59; i++) {
            desk.item(0, i / 20, 0);
        }
        dueCheck("check", made, 0);
        Desk.due("cut 58", desk.cut(58), 0);
        Desk.due("cut 59", desk.cut(59), NONE);
        // Paper 1 is gone into at first, and cut as the 60th.
        desk.item(0, 2, 1);
        desk.item(0, 3, 1);
        dueCheck("check", made, 0);
        Desk.due("cut 58", desk.cut(58), 0);
        Desk.due("cut 59", desk.cut(59), 1);
        Desk.due("cut 60", desk.cut(60), NONE);
        desk.item(0, 3, 0);
        dueCheck("check", made, 0);
        Desk.due("cut 59", desk.cut(59), 1);
        Desk.due("cut 60", desk.cut(60), NONE);
        for (int wrong : new int[] {LEAST, -1, GREATEST}) {
            Desk.due("cut " + wrong, desk.cut(wrong), NONE);
        }
    }

    /** A desk with papers, each of 100 ASKINGS; the last one that is met leads back to the first. */
    private static Desk withAskings(int papers, String first) {
        Desk made = Desk.of("group g; chain c : all, all, g; chain d : g;" + EIGHT + "mark f = need?, need?, need?, need?;"
            + " kind k { l : list k = go; x : int = n, n, n, n, n; y : int = n, n, n, n, n; z : int = n, n, f; p : k = go;"
            + " w : int = need! @ g; } kind i { l : list k = go; x : int = " + first + "; }");
        made.desk.paper(1);
        for (int i = 1; i <= papers; i++) {
            made.desk.paper(0);
        }
        for (int i = 1; i <= Math.min(papers, 20); i++) {
            made.desk.item(0, 0, i);
        }
        for (int i = 21; i <= papers; i++) {
            made.desk.item((i - 1) / 20, 0, i);
        }
        made.desk.link(20, 4, 20);
        return made;
    }

    /** "A CHECK is over behind its 5,000th ASKING .. : nothing more is asked or gone into." */
    private static void fiveThousandAskings() {
        // One asking of the checked paper and 100 of each of the 49: the 5000th is the 99th of the second group.
        Desk under = withAskings(49, "need?");
        dueCheck("4901 and 99 of the next group", under, 5000);
        Desk.due("groups", under.desk.groups(), 2);
        Desk.due("the last paper's way back is cut", under.desk.cut(0), 20);
        Desk.due("and not again", under.desk.cut(1), NONE);
        // Fifty papers of 100: the 5000th is the last one of the 50th paper, whose way back is not gone.
        Desk full = withAskings(50, "need @ g");
        dueCheck("5000", full, 5000);
        Desk.due("groups", full.desk.groups(), 1);
        Desk.due("nothing is gone into", full.desk.cut(0), NONE);
        Desk over = withAskings(51, "need @ g");
        dueCheck("5000 of 5100", over, 5000);
        Desk.due("groups", over.desk.groups(), 1);
        Desk.due("nothing is gone into", over.desk.cut(0), NONE);
        Desk.due("the next check goes into all papers again", over.desk.check(0, 1), 52);
        Desk.due("the last paper's way back is cut", over.desk.cut(0), 20);
        Desk.due("and nothing else", over.desk.cut(1), NONE);
    }

    private static void lastAskingInTheNextGroup() {
        // The checked paper has 99 askings by the first group.
        Desk made = Desk.of("group g; chain c : all, g;" + EIGHT + "mark f = need?, need?, need?, need?;"
            + " mark s = need?, need?, need?, need?, need?, need?, need?; kind k { l : list k = go; x : int = n, n, n, n, n;"
            + " y : int = n, n, n, n, n; z : int = n, n, f; } kind i { l : list k = go; x : int = n, n, n, n, n;"
            + " y : int = n, n, n, n, n; z : int = n, s, f; w : int = need! @ g, least(1) @ g; }");
        made.desk.paper(1);
        for (int i = 1; i <= 49; i++) {
            made.desk.paper(0);
        }
        for (int i = 1; i <= 20; i++) {
            made.desk.item(0, 0, i);
        }
        for (int i = 21; i <= 49; i++) {
            made.desk.item((i - 1) / 20, 0, i);
        }
        dueCheck("4999 and the error of the next group", made, 5000);
        Desk.due("groups", made.desk.groups(), 2);
    }

    private static void askingsThatHoldCount() {
        Desk made = withAskings(51, "need @ g");
        for (int i = 1; i <= 51; i++) {
            made.desk.setInt(i, 1, 1, true);
        }
        dueCheck("sixty of each of fifty do not hold", made, 60 * 50);
        Desk.due("groups", made.desk.groups(), 1);
    }

    /** "(passed over ones count, too)". */
    private static void askingsPassedOverCount() {
        Desk made = Desk.of("chain c : all, all;" + EIGHT + "rule r starts 0 = v; mark o = r, r, r, r, r, r, r, r;"
            + " mark f = r, r, r, r; kind k { l : list k = go; x : int = n, n, n, n, n; y : int = o, o, o, o, o;"
            + " z : int = o, o, f; }");
        for (int i = 0; i <= 50; i++) {
            made.desk.paper(0);
        }
        for (int i = 1; i <= 50; i++) {
            made.desk.item((i - 1) / 20, 0, i);
        }
        dueCheck("forty of each of fifty", made, 40 * 50);
        Desk.due("groups", made.desk.groups(), 1);
        Desk.due("asked", made.desk.asked(0, 0), 0);
    }

    /** 200 papers by a row of eight groups, and again: each is met by each group. */
    private static void allPapersByAllGroups() {
        Desk made = Desk.of("chain c:all" + ",all".repeat(7) + ";kind k{l:list k=go;x:int=need?;}");
        for (int i = 0; i < 200; i++) {
            made.desk.paper(0);
        }
        for (int i = 1; i < 200; i++) {
            made.desk.item((i - 1) / 20, 0, i);
        }
        for (int times = 0; times < 3; times++) {
            dueCheck("check", made, 1600);
            Desk.due("groups", made.desk.groups(), 8);
        }
        made.dueFound(499, 1, 1, 0);
        made.dueFound(500, NONE);
    }

    private static void noSuchFound() {
        Desk made = Desk.of("chain c : all; kind k { x : int = need # -7 \"x\"; }");
        made.desk.paper(0);
        dueCheck("check", made, 1);
        int[] want = {1, 0, -7, 0, 0, 0, 0, 1, 0, 0};
        for (int what = 0; what < 10; what++) {
            Desk.due("what " + what, made.desk.found(0, what), want[what]);
            for (int wrong : new int[] {LEAST, -1, 1, 500, GREATEST}) {
                Desk.due("found " + wrong, made.desk.found(wrong, what), NONE);
            }
        }
        for (int wrong : new int[] {LEAST, -1, 10, GREATEST}) {
            Desk.due("what " + wrong, made.desk.found(0, wrong), NONE);
            Desk.due("way", made.desk.way(wrong, 0), NONE);
            Desk.due("text", made.desk.text(wrong, 0), NONE);
        }
        Desk.due("byte 0", made.desk.text(0, 0), 'x');
    }
}
