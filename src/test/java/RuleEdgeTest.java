/** Promises 20, 21 and 24 at their boundaries: STEPS that wrap or BREAK OFF, rules that are STARTED or FAILED. */
public final class RuleEdgeTest {
    private static final int NONE = CustomsDesk.NONE;
    private static final int LEAST = Integer.MIN_VALUE;
    private static final int GREATEST = Integer.MAX_VALUE;

    public static void main(String[] args) {
        wraps();
        divides();
        compares();
        bits();
        turns();
        fullPile();
        fortySteps();
        argsOfSteps();
        notZeroHolds();
        breaksOffOnlyOfZero();
        startsThatLeave();
        startsThatBreakOff();
        startedOnce();
        startedAtNothing();
        startedAnewByAText();
        nineteenBreaks();
        twentiethWithinACheck();
        breaksOfTwoRules();
        breaksByWouldBe();
        twentiethByWouldBe();
        breaksEndWithTheText();
        failedInOrder();
        lastRule();
        askedByTheLatestCheck();
        wouldBeAtItsEdges();
        wouldBeOfAnyGroup();
        noSuchRule();
        Desk.finish();
    }

    /** Steps that leave a number, put together of its halves as NUMBERS have nine digits at most. */
    private static String number(int n) {
        return (n >> 16) + " 65536 * " + (n & 65535) + " +";
    }

    private static Desk withRule(String steps, int v) {
        Desk made = Desk.of("chain c : all; rule r = " + steps + " ; kind k { x : int = r(5, -3); }");
        made.desk.paper(0);
        made.desk.setInt(0, 0, v, true);
        return made;
    }

    private static void dueLeft(String steps, int v, int want) {
        Desk made = withRule(steps + " " + number(want) + " ==", v);
        Desk.due(steps + " at " + v + " leaves " + want, made.desk.check(0, 0), 0);
        Desk.due("nothing FAILED", made.desk.failed(0, 0), NONE);
        Desk other = withRule(steps + " " + number(want + 1) + " ==", v);
        Desk.due(steps + " at " + v + " does not leave " + (want + 1), other.desk.check(0, 0), 1);
        Desk.due("and does not BREAK OFF", other.desk.found(0, 5), 0);
    }

    /** "STEPS work with numbers (ints, wrapping)". */
    private static void wraps() {
        dueLeft("v 1 +", GREATEST, LEAST);
        dueLeft("v 1 -", LEAST, GREATEST);
        dueLeft("0 v -", LEAST, LEAST);
        dueLeft("v -1 *", LEAST, LEAST);
        dueLeft("v v *", 65536, 0);
        dueLeft("v v *", 46341, -2147479015);
        dueLeft("v v +", LEAST, 0);
        dueLeft("v 2 *", GREATEST, -2);
        dueLeft("999999999 999999999 + 999999999 +", 0, -1294967299);
        dueLeft("v", GREATEST, GREATEST);
        dueLeft("v", LEAST, LEAST);
    }

    private static void divides() {
        dueLeft("v -1 /", LEAST, LEAST);
        dueLeft("v -1 %", LEAST, 0);
        dueLeft("v 2 /", -3, -1);
        dueLeft("v 2 /", 3, 1);
        dueLeft("v -2 /", 3, -1);
        dueLeft("v 2 %", -3, -1);
        dueLeft("v -2 %", 3, 1);
        dueLeft("v -2 %", -3, -1);
        dueLeft("0 v /", 5, 0);
        dueLeft("0 v %", 5, 0);
        dueLeft("7 v /", 2, 3);
        dueLeft("7 v %", 2, 1);
        dueLeft("v 1 /", LEAST, LEAST);
        dueLeft("1 v /", LEAST, 0);
        dueLeft("1 v %", LEAST, 1);
    }

    /** "< > == (1 or 0)". */
    private static void compares() {
        int[] numbers = {LEAST, -1, 0, 1, GREATEST};
        for (int x : numbers) {
            for (int y : numbers) {
                String with = "v " + number(y) + " ";
                dueLeft(with + "<", x, x < y ? 1 : 0);
                dueLeft(with + ">", x, x > y ? 1 : 0);
                dueLeft(with + "==", x, x == y ? 1 : 0);
            }
        }
    }

    /** "& | (of bits)". */
    private static void bits() {
        dueLeft("v 12 &", 10, 8);
        dueLeft("v 12 |", 10, 14);
        dueLeft("v -1 &", LEAST, LEAST);
        dueLeft("v -1 |", LEAST, -1);
        dueLeft("v v 1 - &", LEAST, 0);
        dueLeft("v v 1 - |", LEAST, -1);
        dueLeft("v 0 &", -1, 0);
        dueLeft("v 0 |", 0, 0);
        dueLeft("v 2 &", 5, 0);
    }

    /** "~ turns the top one into 1 if it is 0, else 0". */
    private static void turns() {
        dueLeft("v ~", 0, 1);
        dueLeft("v ~", 1, 0);
        dueLeft("v ~", -1, 0);
        dueLeft("v ~", LEAST, 0);
        dueLeft("v ~ ~", GREATEST, 1);
        dueLeft("7 v ~ -", 0, 6);
    }

    private static void fullPile() {
        dueLeft("1 2 3 4 5 6 7 8 9 10 11 12 v - - - - - - - - - - - -", 13, 7);
        Desk full = withRule("1 2 3 4 5 6 7 8 9 10 11 12 13 14 15 v " + "+ ".repeat(15) + "136 ==", 16);
        Desk.due("sixteen", full.desk.check(0, 0), 0);
    }

    private static void fortySteps() {
        Desk made = withRule("v" + " 1 +".repeat(19) + " ~", -19);
        Desk.due("the fortieth is done", made.desk.check(0, 0), 0);
        made.desk.setInt(0, 0, -18, true);
        Desk.due("the fortieth is done", made.desk.check(0, 0), 1);
        Desk starts = Desk.of("chain c : all; rule r starts -19" + " 1 +".repeat(19) + " ~ = 0; rule s starts -18"
            + " 1 +".repeat(19) + " ~ = 0; kind k { x : int = r, s; }");
        starts.desk.paper(0);
        starts.desk.check(0, 0);
        Desk.due("r", starts.desk.asked(0, 1), 1);
        Desk.due("s", starts.desk.asked(1, 1), 2);
    }

    /** "a, b (the use's first, second arg; 0 without)". */
    private static void argsOfSteps() {
        Desk made = Desk.of("chain c : all; rule r = v a == b 10 == &; rule s = v a == b 0 == &;"
            + " kind k { x : int = r(7, 10), s(7); y : int = s; }");
        made.desk.paper(0);
        made.desk.setInt(0, 0, 7, true);
        made.desk.setInt(0, 1, 0, true);
        Desk.due("check", made.desk.check(0, 0), 0);
        made.desk.setInt(0, 1, 1, true);
        Desk.due("check", made.desk.check(0, 0), 1);
        made.desk.setInt(0, 0, 8, true);
        Desk.due("check", made.desk.check(0, 0), 3);
        dueLeft("a", 0, 5);
        dueLeft("b", 0, -3);
        dueLeft("a b -", 0, 8);
    }

    /** "Own: its steps leave what is not 0". */
    private static void notZeroHolds() {
        for (int v : new int[] {LEAST, -1, 0, 1, GREATEST}) {
            Desk made = withRule("v", v);
            Desk.due("at " + v, made.desk.check(0, 0), v == 0 ? 1 : 0);
            if (v == 0) {
                made.dueFound(0, 100, 0, 0, 0, 0, 0, 0, 0, 0, 0);
            }
        }
    }

    /** "/ and % (of 0: the rule BREAKS OFF)"; "if they BREAK OFF it does not hold, CAUSE 1". */
    private static void breaksOffOnlyOfZero() {
        for (String sign : new String[] {"/", "%"}) {
            for (String steps : new String[] {"1 v ", "0 v ", "v v ", "1 1 v " + sign + " "}) {
                Desk made = withRule("1 " + steps + sign + " |", 0);
                Desk.due(steps + sign, made.desk.check(0, 0), 1);
                made.dueFound(0, 100, 0, 0, 0, 0, 1, 0, 0, 0, 0);
            }
            Desk well = withRule("1 1 v " + sign + " |", -1);
            Desk.due("of -1", well.desk.check(0, 0), 0);
        }
    }

    private static void dueStarted(String starts, int state, int cause) {
        Desk made = Desk.of("chain c : all; rule r " + starts + "= 0; kind k { x : int = r; }");
        made.desk.paper(0);
        made.desk.setInt(0, 0, 0, true);
        Desk.due("not asked yet", made.desk.asked(0, 1), 0);
        Desk.due("check", made.desk.check(0, 0), state == 1 ? 1 : 0);
        Desk.due("state of " + starts, made.desk.asked(0, 1), state);
        Desk.due("passed over ones are not asked", made.desk.asked(0, 0), state == 1 ? 1 : 0);
        Desk.due("failed", made.desk.failed(0, 0), state == 1 ? NONE : 0);
        Desk.due("cause", made.desk.failed(0, 1), cause);
        Desk.due("told once", made.desk.failed(1, 0), NONE);
    }

    /** "its starts steps are done (none: well); if they BREAK OFF, or leave 0, it FAILED". */
    private static void startsThatLeave() {
        dueStarted("", 1, NONE);
        dueStarted("starts ", 1, NONE);
        dueStarted("starts 1 ", 1, NONE);
        dueStarted("starts -1 ", 1, NONE);
        dueStarted("starts 999999999 ", 1, NONE);
        dueStarted("starts 0 ", 2, 2);
        dueStarted("starts 65536 65536 * ", 2, 2);
        dueStarted("starts 5 5 == ", 1, NONE);
        dueStarted("starts 5 6 == ", 2, 2);
    }

    private static void startsThatBreakOff() {
        dueStarted("starts 1 0 / ", 2, 1);
        dueStarted("starts 0 0 % ", 2, 1);
        dueStarted("starts 1 1 0 / | ", 2, 1);
        dueStarted("starts 0 1 / ", 2, 2);
    }

    /** "An own rule that was not asked before since the text was taken is STARTED". */
    private static void startedOnce() {
        Desk made = Desk.of("group g; chain c : all; chain d : g; rule r starts 0 = 0; rule s = 0;"
            + " kind k { x : int = r, r, s @ g; }");
        made.desk.paper(0);
        made.desk.setInt(0, 0, 1, true);
        Desk.due("check", made.desk.check(0, 0), 0);
        Desk.due("what another group asks is not started", made.desk.asked(1, 1), 0);
        Desk.due("check", made.desk.check(0, 0), 0);
        Desk.due("check", made.desk.check(0, 1), 1);
        Desk.due("started", made.desk.asked(1, 1), 1);
        Desk.due("failed once", made.desk.failed(0, 0), 0);
        Desk.due("and once alone", made.desk.failed(1, 0), NONE);
    }

    /** "STARTED, also at what is not there". */
    private static void startedAtNothing() {
        Desk made = Desk.of("chain c : all; rule r = 1 0 /; rule s starts 0 = 0; rule t starts 1 0 / = 0;"
            + " kind k { x : int = r, s, t; }");
        made.desk.paper(0);
        Desk.due("what is not there holds", made.desk.check(0, 0), 0);
        Desk.due("r", made.desk.asked(0, 1), 1);
        Desk.due("s", made.desk.asked(1, 1), 2);
        Desk.due("t", made.desk.asked(2, 1), 2);
        Desk.due("cause of s", made.desk.failed(0, 1), 2);
        Desk.due("cause of t", made.desk.failed(1, 1), 1);
        for (int i = 0; i < 25; i++) {
            made.desk.check(0, 0);
        }
        Desk.due("steps that are not done do not BREAK OFF", made.desk.asked(0, 1), 1);
    }

    /** "A text that is taken ends all papers, starts and founds before it." */
    private static void startedAnewByAText() {
        String text = "chain c : all; rule r starts 0 = v; rule s = v; kind k { x : int = r, s; }";
        Desk made = Desk.of(text);
        made.desk.paper(0);
        made.desk.check(0, 0);
        Desk.due("r", made.desk.asked(0, 1), 2);
        Desk.due("s", made.desk.asked(1, 1), 1);
        made.take("kind k { } $");
        Desk.due("a FAULT ends nothing", made.desk.asked(0, 1), 2);
        Desk.due("a FAULT ends nothing", made.desk.failed(0, 0), 0);
        made.take(text);
        Desk.due("r", made.desk.asked(0, 1), 0);
        Desk.due("s", made.desk.asked(1, 1), 0);
        Desk.due("asked", made.desk.asked(1, 0), 0);
        Desk.due("failed", made.desk.failed(0, 0), NONE);
        made.desk.paper(0);
        made.desk.check(0, 0);
        Desk.due("failed anew", made.desk.failed(0, 1), 2);
    }

    /** "a rule whose steps BROKE OFF for the 20th time .. FAILED behind that, with cause 3". */
    private static void nineteenBreaks() {
        Desk made = withRule("1 v /", 0);
        for (int i = 1; i <= 19; i++) {
            Desk.due("break " + i, made.desk.check(0, 0), 1);
            Desk.due("state", made.desk.asked(0, 1), 1);
        }
        Desk.due("failed", made.desk.failed(0, 0), NONE);
        made.desk.setInt(0, 0, 1, true);
        Desk.due("no break", made.desk.check(0, 0), 0);
        Desk.due("state", made.desk.asked(0, 1), 1);
        made.desk.setInt(0, 0, 0, true);
        Desk.due("break 20 is told", made.desk.check(0, 0), 1);
        made.dueFound(0, 100, 0, 0, 0, 0, 1);
        Desk.due("it was asked", made.desk.asked(0, 0), 1);
        Desk.due("state", made.desk.asked(0, 1), 2);
        Desk.due("failed", made.desk.failed(0, 0), 0);
        Desk.due("cause", made.desk.failed(0, 1), 3);
        Desk.due("passed over", made.desk.check(0, 0), 0);
        Desk.due("asked", made.desk.asked(0, 0), 0);
        Desk.due("told once", made.desk.failed(1, 0), NONE);
    }

    private static void twentiethWithinACheck() {
        Desk made = Desk.of("chain c : all; rule r = 1 v /; mark m = r?, r?, r?, r?, r?, r?, r?, r?;"
            + " kind k { x : int = m, m; y : int = m; }");
        made.desk.paper(0);
        made.desk.setInt(0, 0, 0, true);
        made.desk.setInt(0, 1, 0, true);
        Desk.due("twenty of twenty-four", made.desk.check(0, 0), 20);
        made.dueFound(19, 100, 1, 0, 0, 1, 1);
        Desk.due("asked", made.desk.asked(0, 0), 20);
        Desk.due("cause", made.desk.failed(0, 1), 3);
    }

    private static void breaksOfTwoRules() {
        Desk made = Desk.of("chain c : all; rule r = 1 v /; rule s = 1 v %; kind k { x : int = s, r; y : int = s; }");
        made.desk.paper(0);
        made.desk.setInt(0, 0, 0, true);
        made.desk.setInt(0, 1, 0, true);
        for (int i = 0; i < 10; i++) {
            Desk.due("check", made.desk.check(0, 0), 3);
        }
        Desk.due("s", made.desk.asked(1, 1), 2);
        Desk.due("r", made.desk.asked(0, 1), 1);
        for (int i = 0; i < 10; i++) {
            Desk.due("check", made.desk.check(0, 0), 1);
        }
        Desk.due("r", made.desk.asked(0, 1), 2);
        Desk.due("failed 0", made.desk.failed(0, 0), 1);
        Desk.due("failed 1", made.desk.failed(1, 0), 0);
        Desk.due("check", made.desk.check(0, 0), 0);
    }

    /** "(by wouldBe(), too)". */
    private static void breaksByWouldBe() {
        Desk made = withRule("1 v /", 0);
        Desk.due("not started, nothing is done", made.desk.wouldBe(0, 0, 0), 0);
        Desk.due("break 1", made.desk.check(0, 0), 1);
        for (int i = 2; i <= 19; i++) {
            Desk.due("would BREAK OFF", made.desk.wouldBe(0, 0, 0), 0);
        }
        Desk.due("state behind 19", made.desk.asked(0, 1), 1);
        Desk.due("at 2 it does not hold", made.desk.wouldBe(0, 0, 2), 1);
        Desk.due("at 1 it holds", made.desk.wouldBe(0, 0, 1), 0);
        Desk.due("break 20", made.desk.check(0, 0), 1);
        Desk.due("state", made.desk.asked(0, 1), 2);
        Desk.due("cause", made.desk.failed(0, 1), 3);
        Desk.due("FAILED ones count 0", made.desk.wouldBe(0, 0, 2), 0);
    }

    private static void twentiethByWouldBe() {
        Desk made = withRule("1 v /", 1);
        Desk.due("check", made.desk.check(0, 0), 0);
        for (int i = 1; i <= 19; i++) {
            made.desk.wouldBe(0, 0, 0);
        }
        Desk.due("state behind 19", made.desk.asked(0, 1), 1);
        Desk.due("the 20th", made.desk.wouldBe(0, 0, 0), 0);
        Desk.due("state", made.desk.asked(0, 1), 2);
        Desk.due("failed", made.desk.failed(0, 0), 0);
        Desk.due("cause", made.desk.failed(0, 1), 3);
        Desk.due("asked is of the check", made.desk.asked(0, 0), 1);
        Desk.due("passed over", made.desk.check(0, 0), 0);
        Desk.due("asked", made.desk.asked(0, 0), 0);
        made.desk.wouldBe(0, 0, 0);
        Desk.due("told once", made.desk.failed(1, 0), NONE);
        // Within one call, too: what stands behind the 20th counts 0.
        Desk two = Desk.of("chain c : all; rule r = 1 v b - /; kind k { x : int = r, r, r(0, 5); }");
        two.desk.paper(0);
        two.desk.setInt(0, 0, 0, true);
        for (int i = 0; i < 8; i++) {
            Desk.due("three", two.desk.check(0, 0), 3);
        }
        Desk.due("breaks 17 and 18", two.desk.wouldBe(0, 0, 0), 1);
        Desk.due("breaks 19 and 20", two.desk.wouldBe(0, 0, 0), 0);
        Desk.due("state", two.desk.asked(0, 1), 2);
    }

    private static void breaksEndWithTheText() {
        String text = "chain c : all; rule r = 1 v /; kind k { x : int = r; }";
        Desk made = Desk.of(text);
        for (int times = 0; times < 2; times++) {
            made.desk.paper(0);
            made.desk.setInt(0, 0, 0, true);
            for (int i = 0; i < 19; i++) {
                made.desk.check(0, 0);
            }
            Desk.due("state", made.desk.asked(0, 1), 1);
            made.take(text);
        }
    }

    private static void failedInOrder() {
        Desk made = Desk.of("chain c : all; rule a starts 0 = v; rule b starts 1 0 / = v; rule d starts 0 = v; kind k {"
            + " x : int = d, b; y : int = a; }");
        made.desk.paper(0);
        made.desk.check(0, 0);
        int[][] want = {{2, 2}, {1, 1}, {0, 2}};
        for (int k = 0; k < 3; k++) {
            Desk.due("failed " + k, made.desk.failed(k, 0), want[k][0]);
            Desk.due("cause " + k, made.desk.failed(k, 1), want[k][1]);
        }
        for (int wrong : new int[] {LEAST, -1, 3, GREATEST}) {
            Desk.due("failed " + wrong, made.desk.failed(wrong, 0), NONE);
            Desk.due("failed " + wrong, made.desk.failed(wrong, 1), NONE);
            Desk.due("what " + wrong, made.desk.failed(0, wrong), NONE);
        }
        Desk.due("what 2", made.desk.failed(0, 2), NONE);
    }

    /** "own ones 100 and number". */
    private static void lastRule() {
        Desk made = Desk.of("chain c : all;" + Desk.numbered(15, "rule r# starts 0 = 0;") + "rule r15 = 0;"
            + "kind k { x : int = r0, r1, r2, r3, r4, r5, r6, r7; y : int = r8, r9, r10, r11, r12, r13, r14, r15; }");
        made.desk.paper(0);
        made.desk.setInt(0, 0, 0, true);
        made.desk.setInt(0, 1, 0, true);
        Desk.due("check", made.desk.check(0, 0), 1);
        made.dueFound(0, 115, 0, 0, 0, 1);
        for (int k = 0; k < 15; k++) {
            Desk.due("failed " + k, made.desk.failed(k, 0), k);
        }
        Desk.due("failed 15", made.desk.failed(15, 0), NONE);
        Desk.due("asked 15", made.desk.asked(15, 0), 1);
        Desk.due("asked 16", made.desk.asked(16, 0), NONE);
    }

    /** "how often it was asked by the latest check (passed over: not)". */
    private static void askedByTheLatestCheck() {
        Desk made = Desk.of("group g; chain c : all, all; chain d : g; rule r = v; rule s = v;"
            + " kind k { x : int = r?, r?, s @ g; }");
        made.desk.paper(0);
        Desk.due("without a check", made.desk.asked(0, 0), 0);
        made.desk.check(0, 0);
        Desk.due("at what is not there, by two groups", made.desk.asked(0, 0), 4);
        Desk.due("by none", made.desk.asked(1, 0), 0);
        made.desk.setInt(0, 0, 1, true);
        made.desk.check(0, 0);
        Desk.due("anew by each check", made.desk.asked(0, 0), 4);
        made.desk.wouldBe(0, 0, 0);
        made.desk.correct();
        made.desk.check(0, 2);
        Desk.due("other calls are no check", made.desk.asked(0, 0), 4);
        made.desk.check(0, 1);
        Desk.due("by the other chain", made.desk.asked(0, 0), 0);
        Desk.due("by the other chain", made.desk.asked(1, 0), 1);
        Desk.due("started stays", made.desk.asked(0, 1), 1);
    }

    private static void wouldBeAtItsEdges() {
        Desk made = Desk.of("chain c : all; kind k { x : int = least(3), most(5), oneof(3, 6), need; y : int; t : text; p : k;"
            + " l : list k; }");
        CustomsDesk desk = made.desk;
        desk.paper(0);
        int[][] want = {{2, 2}, {3, 0}, {4, 1}, {5, 1}, {6, 1}, {7, 2}, {LEAST, 2}, {GREATEST, 2}};
        for (int[] row : want) {
            Desk.due("would be " + row[0], desk.wouldBe(0, 0, row[0]), row[1]);
        }
        Desk.due("without uses", desk.wouldBe(0, 1, LEAST), 0);
        Desk.due("it is not set", desk.value(0, 0, 0), 0);
        for (int member : new int[] {LEAST, -1, 2, 3, 4, 5, GREATEST}) {
            Desk.due("member " + member, desk.wouldBe(0, member, 0), NONE);
        }
        for (int paper : new int[] {LEAST, -1, 1, GREATEST}) {
            Desk.due("paper " + paper, desk.wouldBe(paper, 0, 0), NONE);
        }
        Desk.due("no check", desk.groups(), NONE);
    }

    /** "the uses at an int member, of any group". */
    private static void wouldBeOfAnyGroup() {
        Desk made = Desk.of("group g; group h; chain c : g; rule r = v 4 >; kind k { x : int = least(3), least(4)? @ g,"
            + " least(5) @ h, r @ g, size(1, 2), go, oneof; * = below(x, x); }");
        made.desk.paper(0);
        Desk.due("r is not started", made.desk.wouldBe(0, 0, 0), 3);
        made.desk.check(0, 0);
        Desk.due("r is started", made.desk.wouldBe(0, 0, 0), 4);
        Desk.due("at 4", made.desk.wouldBe(0, 0, 4), 2);
        Desk.due("at 5", made.desk.wouldBe(0, 0, 5), 0);
    }

    private static void noSuchRule() {
        Desk made = Desk.of("chain c : all; rule r = v; kind k { x : int = r; }");
        for (int wrong : new int[] {LEAST, -1, 1, 100, GREATEST}) {
            Desk.due("rule " + wrong, made.desk.asked(wrong, 0), NONE);
            Desk.due("rule " + wrong, made.desk.asked(wrong, 1), NONE);
        }
        for (int wrong : new int[] {LEAST, -1, 2, GREATEST}) {
            Desk.due("what " + wrong, made.desk.asked(0, wrong), NONE);
        }
    }
}
