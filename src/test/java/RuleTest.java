/** Promises 20, 21 and 24: failed, asked, wouldBe; and the steps of own rules. */
public final class RuleTest {
    private static final int NONE = CustomsDesk.NONE;

    public static void main(String[] args) {
        steps();
        args();
        starts();
        startedAtNothing();
        breaks();
        breaksByWouldBe();
        asked();
        wouldBe();
        Desk.finish();
    }

    /** What the steps leave at a value, asked by comparing it with a number that is due. */
    private static void dueLeft(String steps, int v, int want) {
        Desk made = Desk.of("chain c : all; rule r = " + steps + " " + half(want) + " " + (want - half(want))
            + " + == ; kind k { x : int = r(5, -3); }");
        made.desk.paper(0);
        made.desk.setInt(0, 0, v, true);
        Desk.due(steps + " at " + v + " leaves " + want, made.desk.check(0, 0), 0);
    }

    /** NUMBERS have nine digits at most, so a due number is put together of two. */
    private static int half(int want) {
        return Math.max(Math.min(want, 999999999), -999999999);
    }

    private static void steps() {
        dueLeft("v 1 +", 4, 5);
        dueLeft("v 1 -", 4, 3);
        dueLeft("1 v -", 4, -3);
        dueLeft("v 3 *", 4, 12);
        dueLeft("v 3 /", -7, -2);
        dueLeft("v 3 %", -7, -1);
        dueLeft("7 v /", 3, 2);
        dueLeft("v -1 /", 7, -7);
        dueLeft("v 999999999 999999999 + 149999 + -149999 + * 0 *", 7, 0);
        dueLeft("v v +", 1500000000, -1294967296);
        dueLeft("v 5 <", 4, 1);
        dueLeft("v 5 <", 5, 0);
        dueLeft("v 5 >", 6, 1);
        dueLeft("v 5 >", 5, 0);
        dueLeft("v 5 ==", 5, 1);
        dueLeft("v 5 = =", 6, 0);
        dueLeft("v 6 &", 12, 4);
        dueLeft("v 6 |", 12, 14);
        dueLeft("v ~", 0, 1);
        dueLeft("v ~", -3, 0);
        dueLeft("v ~ ~", -3, 1);
        dueLeft("a b -", 0, 8);
        Desk least = Desk.of("chain c : all; rule r = v -1 / v == v -1 % ~ & ; kind k { x : int = r; }");
        least.desk.paper(0);
        least.desk.setInt(0, 0, Integer.MIN_VALUE, true);
        Desk.due("the least number by -1", least.desk.check(0, 0), 0);
    }

    private static void args() {
        Desk made = Desk.of("chain c : all; rule r = v a 10 * + b + 0 == ~ ; kind k { x : int = r, r(1), r(-1, 5)? # 3; }");
        made.desk.paper(0);
        made.desk.setInt(0, 0, 0, true);
        Desk.due("without args", made.desk.check(0, 0), 1);
        made.dueFound(0, 100, 0, 0, 0, 0, 0, 0, 0, 0, 0);
        made.desk.setInt(0, 0, -10, true);
        Desk.due("with one", made.desk.check(0, 0), 1);
        made.desk.setInt(0, 0, 5, true);
        Desk.due("with two", made.desk.check(0, 0), 1);
        made.dueFound(0, 100, 1, 3);
    }

    private static void starts() {
        Desk made = Desk.of("chain c : all; rule none = 0; rule zero starts 5 5 - = 0; rule broken starts 1 0 % = 0;"
            + " rule well starts 2 2 == = 0; rule empty starts = 0; kind k { x : int = broken, none, zero, well, empty,"
            + " broken, zero; }");
        CustomsDesk desk = made.desk;
        desk.paper(0);
        desk.setInt(0, 0, 1, true);
        for (int rule = 0; rule < 5; rule++) {
            Desk.due("not started", desk.asked(rule, 1), 0);
        }
        Desk.due("check", desk.check(0, 0), 3);
        made.dueFound(0, 100, 0, 0, 0, 0, 0);
        made.dueFound(1, 103);
        made.dueFound(2, 104);
        int[] states = {1, 2, 2, 1, 1};
        int[] asked = {1, 0, 0, 1, 1};
        for (int rule = 0; rule < 5; rule++) {
            Desk.due("state of " + rule, desk.asked(rule, 1), states[rule]);
            Desk.due("asked " + rule, desk.asked(rule, 0), asked[rule]);
        }
        Desk.due("check", desk.check(0, 0), 3);
        Desk.due("failed 0", desk.failed(0, 0), 2);
        Desk.due("broke off", desk.failed(0, 1), 1);
        Desk.due("failed 1", desk.failed(1, 0), 1);
        Desk.due("left 0", desk.failed(1, 1), 2);
        Desk.due("told once", desk.failed(2, 0), NONE);
        Desk.due("failed -1", desk.failed(-1, 0), NONE);
        Desk.due("what 2", desk.failed(0, 2), NONE);
        Desk.due("what -1", desk.failed(0, -1), NONE);
    }

    private static void startedAtNothing() {
        Desk made = Desk.of("chain c : all; rule zero starts 0 = 0; rule r = 0; kind k { x : int = r, zero; }");
        CustomsDesk desk = made.desk;
        desk.paper(0);
        Desk.due("what is not there holds", desk.check(0, 0), 0);
        Desk.due("started", desk.asked(0, 1), 2);
        Desk.due("started", desk.asked(1, 1), 1);
        Desk.due("asked", desk.asked(1, 0), 1);
        Desk.due("failed", desk.failed(0, 0), 0);
    }

    private static void breaks() {
        Desk made = Desk.of("chain c : all; rule r = 1 v / ; kind k { x : int = r?, r?, r?, r?, r?, r?, r?, r?; }");
        CustomsDesk desk = made.desk;
        desk.paper(0);
        desk.setInt(0, 0, 0, true);
        Desk.due("check", desk.check(0, 0), 8);
        made.dueFound(7, 100, 1, 0, 0, 0, 1);
        Desk.due("check", desk.check(0, 0), 8);
        Desk.due("not yet failed", desk.asked(0, 1), 1);
        Desk.due("four more", desk.check(0, 0), 4);
        made.dueFound(3, 100, 1, 0, 0, 0, 1);
        Desk.due("asked", desk.asked(0, 0), 4);
        Desk.due("failed", desk.asked(0, 1), 2);
        Desk.due("failed", desk.failed(0, 0), 0);
        Desk.due("cause", desk.failed(0, 1), 3);
        Desk.due("passed over", desk.check(0, 0), 0);
        Desk.due("asked", desk.asked(0, 0), 0);
        desk.setInt(0, 0, 5, true);
        Desk.due("passed over", desk.check(0, 0), 0);
        Desk.due("told once", desk.failed(1, 0), NONE);
    }

    private static void breaksByWouldBe() {
        Desk made = Desk.of("chain c : all; rule r = 1 v / ; kind k { x : int = r?, r?, r?; }");
        CustomsDesk desk = made.desk;
        desk.paper(0);
        desk.setInt(0, 0, 1, true);
        Desk.due("not started", desk.wouldBe(0, 0, 0), 0);
        Desk.due("state", desk.asked(0, 1), 0);
        Desk.due("check", desk.check(0, 0), 0);
        for (int i = 0; i < 6; i++) {
            Desk.due("would break off", desk.wouldBe(0, 0, 0), 0);
        }
        Desk.due("18 breaks", desk.asked(0, 1), 1);
        Desk.due("would not hold", desk.wouldBe(0, 0, 2), 3);
        desk.setInt(0, 0, 0, true);
        Desk.due("two more", desk.check(0, 0), 2);
        Desk.due("failed", desk.failed(0, 1), 3);
        Desk.due("failed ones count 0", desk.wouldBe(0, 0, 2), 0);
        Desk other = Desk.of("chain c : all; rule r = 1 v / ; kind k { x : int = r?, r?, r?; }");
        other.desk.paper(0);
        other.desk.check(0, 0);
        for (int i = 0; i < 7; i++) {
            other.desk.wouldBe(0, 0, 0);
        }
        Desk.due("failed by wouldBe", other.desk.failed(0, 1), 3);
        Desk.due("asked is of the check", other.desk.asked(0, 0), 3);
        Desk.due("state", other.desk.asked(0, 1), 2);
    }

    private static void asked() {
        Desk made = Desk.of("group g; chain c : all; chain d : g; rule r = v; rule s = v; kind k { x : int = r, r, s @ g; }");
        CustomsDesk desk = made.desk;
        desk.paper(0);
        desk.setInt(0, 0, 1, true);
        Desk.due("asked without a check", desk.asked(0, 0), 0);
        desk.check(0, 0);
        Desk.due("asked", desk.asked(0, 0), 2);
        Desk.due("asked", desk.asked(1, 0), 0);
        Desk.due("state", desk.asked(1, 1), 0);
        desk.wouldBe(0, 0, 1);
        Desk.due("wouldBe does not ask", desk.asked(0, 0), 2);
        desk.check(5, 0);
        Desk.due("a refused check neither", desk.asked(0, 0), 2);
        desk.check(0, 1);
        Desk.due("by the latest check", desk.asked(0, 0), 0);
        Desk.due("state stays", desk.asked(0, 1), 1);
        Desk.due("asked", desk.asked(1, 0), 1);
        Desk.due("what 2", desk.asked(0, 2), NONE);
        Desk.due("what -1", desk.asked(0, -1), NONE);
        Desk.due("rule 2", desk.asked(2, 0), NONE);
        Desk.due("rule -1", desk.asked(-1, 0), NONE);
    }

    private static void wouldBe() {
        Desk made = Desk.of("group g; chain c : all; rule r = v 3 > ; rule late = 0; mark m = most(4), least(2) @ g;"
            + " kind k { x : int = m, oneof(1, 3) ?, r, need, size(1, 2), least, late @ g, go; t : text = size(1, 2);"
            + " p : k; l : list k; } kind s of k { y : int = least(1); z : int; }");
        CustomsDesk desk = made.desk;
        desk.paper(0);
        desk.paper(1);
        Desk.due("rules that are not started count 0", desk.wouldBe(0, 0, 1), 1);
        Desk.due("check", desk.check(0, 0), 1);
        Desk.due("at 1", desk.wouldBe(0, 0, 1), 2);
        Desk.due("at 2", desk.wouldBe(0, 0, 2), 2);
        Desk.due("at 3", desk.wouldBe(0, 0, 3), 1);
        Desk.due("at 4", desk.wouldBe(1, 0, 4), 1);
        Desk.due("at 5", desk.wouldBe(1, 0, 5), 2);
        Desk.due("own member", desk.wouldBe(1, 4, 0), 1);
        Desk.due("no uses", desk.wouldBe(1, 5, 0), 0);
        Desk.due("the value is as it was", desk.value(0, 0, 0), 0);
        Desk.due("founds are as they were", desk.found(0, 0), 1);
        for (int member = -1; member <= 4; member++) {
            if (member != 0) {
                Desk.due("no int member", desk.wouldBe(0, member, 0), NONE);
            }
        }
        Desk.due("no paper", desk.wouldBe(2, 0, 0), NONE);
        Desk.due("paper -1", desk.wouldBe(-1, 0, 0), NONE);
    }
}
