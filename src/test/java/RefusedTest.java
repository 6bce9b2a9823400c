import java.util.ArrayList;
import java.util.List;

/** "A call is refused (NONE, false) if something is not as told; it changes nothing then." */
public final class RefusedTest {
    private static final int NONE = CustomsDesk.NONE;
    private static final int LEAST = Integer.MIN_VALUE;
    private static final int GREATEST = Integer.MAX_VALUE;
    private static final String TEXT = "group g; chain c : all, g; chain d : g; rule r = 12 v / ; rule s starts 0 = v ;"
        + " mark m = r?, least(7)? # 4 \"m{v}\"; mark o = o; kind k { i : int = m, s, size(1, 2), o; t : text = size(1, 3)?;"
        + " p : k = go, need?; l : list k = go; j : int = need? @ g; } kind q of k { n : int = most(0)?; * = below(i, n)?; }"
        + " kind x { }";
    private static final int MEMBERS = 5;
    private static final int PAPERS = 4;

    /** One call; false counts as NONE does. */
    private interface Call {
        int on(CustomsDesk desk);
    }

    /** A desk as it is ahead of the refused call. */
    private interface Maker {
        CustomsDesk make();
    }

    public static void main(String[] args) {
        tape();
        namesAndKinds();
        misuses();
        papers();
        ints();
        texts();
        links();
        items();
        values();
        checks();
        founds();
        rules();
        wouldBes();
        corrects();
        fullTape();
        allPapers();
        noText();
        faultyTexts();
        Desk.finish();
    }

    /** Papers 0 and 1 are of k, 2 of q, 3 of x; the list of paper 0 is full; 18 times r broke off; a text is on the TAPE. */
    private static CustomsDesk filled() {
        Desk made = Desk.of(TEXT);
        CustomsDesk desk = made.desk;
        desk.paper(0);
        desk.paper(0);
        desk.paper(1);
        desk.paper(2);
        for (int i = 0; i < 20; i++) {
            desk.item(0, 3, i % 3);
        }
        desk.link(0, 2, 1);
        desk.setInt(0, 0, 0, true);
        desk.setInt(1, 0, 5, true);
        desk.setInt(2, 0, 6, true);
        desk.setInt(2, 5, 3, true);
        desk.setText(0, 1, 0, true);
        desk.setText(1, 1, Desk.name("ab"), true);
        desk.check(0, 0);
        for (int i = 0; i < 17; i++) {
            desk.wouldBe(0, 0, 0);
        }
        made.feed("kind z { } kind y { } $");
        return desk;
    }

    private static CustomsDesk corrected() {
        CustomsDesk desk = filled();
        desk.correct();
        desk.setInt(1, 0, 2, true);
        return desk;
    }

    private static CustomsDesk unchecked() {
        Desk made = Desk.of(TEXT);
        for (int i = 0; i < PAPERS; i++) {
            made.desk.paper(i % 3);
        }
        return made.desk;
    }

    /** All that can be asked of a desk; the last calls change it, so that what can't be asked shows. */
    private static List<Integer> seen(CustomsDesk desk) {
        List<Integer> seen = new ArrayList<>();
        seen.add(desk.fault(0));
        seen.add(desk.fault(1));
        for (String name : new String[] {"all", "g", "c", "d", "r", "s", "m", "o", "k", "q", "x", "z"}) {
            seen.add(desk.named(Desk.name(name)));
        }
        for (int kind = 0; kind < 4; kind++) {
            seen.add(desk.kind(kind, 0));
            seen.add(desk.kind(kind, 1));
        }
        seen.add(desk.member(1, 'n'));
        for (int k = 0; k < 3; k++) {
            seen.add(desk.misuse(k, 1));
            seen.add(desk.misuse(k, 3));
        }
        addValues(seen, desk);
        addFounds(seen, desk);
        addRules(seen, desk);
        seen.add(desk.wouldBe(1, 0, 0));
        seen.add(desk.wouldBe(1, 0, 5));
        seen.add(desk.correct());
        addValues(seen, desk);
        seen.add(desk.paper(1));
        seen.add(desk.item(1, 3, 0));
        seen.add(desk.check(0, 0));
        seen.add(desk.found(0, 0));
        addRules(seen, desk);
        // How many bytes are on the TAPE, and which.
        int bytes = desk.feed(0, 0, 0, 0, 0) - 20;
        seen.add(bytes);
        seen.add(desk.end(Math.max(bytes, 0)));
        seen.add(desk.take());
        seen.add(desk.fault(0));
        seen.add(desk.fault(1));
        return seen;
    }

    private static void addValues(List<Integer> seen, CustomsDesk desk) {
        for (int paper = 0; paper < PAPERS; paper++) {
            for (int member = 0; member <= MEMBERS; member++) {
                seen.add(desk.value(paper, member, 0));
                seen.add(desk.value(paper, member, 1));
            }
        }
    }

    private static void addFounds(List<Integer> seen, CustomsDesk desk) {
        seen.add(desk.groups());
        for (int k = 0; k < 10; k++) {
            for (int what = 0; what < 10; what++) {
                seen.add(desk.found(k, what));
            }
            seen.add(desk.way(k, 0));
            seen.add(desk.text(k, 1));
        }
        for (int k = 0; k < 3; k++) {
            seen.add(desk.cut(k));
        }
    }

    private static void addRules(List<Integer> seen, CustomsDesk desk) {
        for (int rule = 0; rule < 2; rule++) {
            seen.add(desk.asked(rule, 0));
            seen.add(desk.asked(rule, 1));
            seen.add(desk.failed(rule, 0));
            seen.add(desk.failed(rule, 1));
        }
    }

    /** Twice, as a first refused call could make ready what a second one does. */
    private static void refused(String what, Maker maker, Call call) {
        CustomsDesk desk = maker.make();
        Desk.due(what, call.on(desk), NONE);
        Desk.due(what + " again", call.on(desk), NONE);
        List<Integer> want = seen(maker.make());
        List<Integer> got = seen(desk);
        for (int i = 0; i < want.size(); i++) {
            Desk.due(what + ": answer " + i + " behind it", got.get(i), want.get(i));
        }
    }

    private static void refused(String what, Call call) {
        refused(what, RefusedTest::filled, call);
    }

    private static int answer(boolean done) {
        return done ? 1 : NONE;
    }

    private static void tape() {
        for (int n : new int[] {LEAST, -1, 24, GREATEST}) {
            refused("end(" + n + ")", desk -> desk.end(n));
        }
        for (int what : new int[] {LEAST, -1, 2, GREATEST}) {
            refused("fault(" + what + ")", desk -> desk.fault(what));
        }
    }

    private static void namesAndKinds() {
        for (long name : new long[] {0, -1, 'z', Desk.name("need"), Desk.name("kind")}) {
            refused("named(" + name + ")", desk -> desk.named(name));
        }
        for (int kind : new int[] {LEAST, -1, 3, GREATEST}) {
            refused("kind(" + kind + ", 0)", desk -> desk.kind(kind, 0));
            refused("member(" + kind + ", i)", desk -> desk.member(kind, 'i'));
        }
        for (int what : new int[] {-1, 2}) {
            refused("kind(0, " + what + ")", desk -> desk.kind(0, what));
        }
        refused("member(0, n)", desk -> desk.member(0, 'n'));
        refused("member(0, 0)", desk -> desk.member(0, 0));
    }

    private static void misuses() {
        for (int k : new int[] {LEAST, -1, 2, GREATEST}) {
            refused("misuse(" + k + ", 0)", desk -> desk.misuse(k, 0));
        }
        for (int what : new int[] {-1, 4}) {
            refused("misuse(0, " + what + ")", desk -> desk.misuse(0, what));
        }
    }

    private static void papers() {
        for (int kind : new int[] {LEAST, -1, 3, GREATEST}) {
            refused("paper(" + kind + ")", desk -> desk.paper(kind));
        }
    }

    private static void ints() {
        for (boolean there : new boolean[] {true, false}) {
            for (int paper : new int[] {LEAST, -1, 4, GREATEST}) {
                refused("setInt of paper " + paper, desk -> answer(desk.setInt(paper, 0, 9, there)));
            }
            for (int member : new int[] {LEAST, -1, 1, 2, 3, 5, GREATEST}) {
                refused("setInt of member " + member, desk -> answer(desk.setInt(0, member, 9, there)));
            }
            refused("setInt without members", desk -> answer(desk.setInt(3, 0, 9, there)));
        }
    }

    private static void texts() {
        for (boolean there : new boolean[] {true, false}) {
            for (int paper : new int[] {LEAST, -1, 4, GREATEST}) {
                refused("setText of paper " + paper, desk -> answer(desk.setText(paper, 1, 'x', there)));
            }
            for (int member : new int[] {LEAST, -1, 0, 2, 3, 5, GREATEST}) {
                refused("setText of member " + member, desk -> answer(desk.setText(1, member, 'x', there)));
            }
            for (long letters : new long[] {1, 31, 127, 128, 255, -1, 0x61001f6161L, 0x7f00000000000000L}) {
                refused("setText of " + letters, desk -> answer(desk.setText(1, 1, letters, there)));
            }
        }
    }

    private static void links() {
        for (int paper : new int[] {LEAST, -1, 4, GREATEST}) {
            refused("link of paper " + paper, desk -> answer(desk.link(paper, 2, 0)));
            refused("link of paper " + paper + " to nothing", desk -> answer(desk.link(paper, 2, NONE)));
        }
        for (int member : new int[] {LEAST, -1, 0, 1, 3, 5, GREATEST}) {
            refused("link of member " + member, desk -> answer(desk.link(0, member, 0)));
            refused("link of member " + member + " to nothing", desk -> answer(desk.link(0, member, NONE)));
        }
        for (int other : new int[] {LEAST, -2, 3, 4, GREATEST}) {
            refused("link to " + other, desk -> answer(desk.link(0, 2, other)));
        }
    }

    private static void items() {
        for (int paper : new int[] {LEAST, -1, 4, GREATEST}) {
            refused("item of paper " + paper, desk -> desk.item(paper, 3, 0));
        }
        for (int member : new int[] {LEAST, -1, 0, 1, 2, 5, GREATEST}) {
            refused("item of member " + member, desk -> desk.item(1, member, 0));
        }
        for (int other : new int[] {LEAST, -1, 3, 4, GREATEST}) {
            refused("item " + other, desk -> desk.item(1, 3, other));
        }
        refused("the 21st item", desk -> desk.item(0, 3, 0));
    }

    private static void values() {
        for (int wrong : new int[] {LEAST, -1, 5, GREATEST}) {
            refused("value of paper " + wrong, desk -> desk.value(wrong, 0, 0));
            refused("value of member " + wrong, desk -> desk.value(0, wrong, 0));
            refused("value of what " + wrong, desk -> desk.value(0, 0, wrong));
        }
    }

    private static void checks() {
        for (int paper : new int[] {LEAST, -1, 4, GREATEST}) {
            refused("check of paper " + paper, desk -> desk.check(paper, 0));
        }
        for (int chain : new int[] {LEAST, -1, 2, GREATEST}) {
            refused("check by chain " + chain, desk -> desk.check(0, chain));
            refused("check by chain " + chain, RefusedTest::unchecked, desk -> desk.check(0, chain));
        }
    }

    private static void founds() {
        for (int k : new int[] {LEAST, -1, 100, GREATEST}) {
            refused("found " + k, desk -> desk.found(k, 0));
            refused("way of " + k, desk -> desk.way(k, 0));
            refused("text of " + k, desk -> desk.text(k, 0));
            refused("cut " + k, desk -> desk.cut(k));
            refused("found, what " + k, desk -> desk.found(0, k));
            refused("way, step " + k, desk -> desk.way(0, k));
            refused("text, byte " + k, desk -> desk.text(0, k));
        }
        refused("groups", RefusedTest::unchecked, desk -> desk.groups());
    }

    private static void rules() {
        for (int wrong : new int[] {LEAST, -1, 2, GREATEST}) {
            refused("failed " + wrong, desk -> desk.failed(wrong, 0));
            refused("failed, what " + wrong, desk -> desk.failed(0, wrong));
            refused("asked " + wrong, desk -> desk.asked(wrong, 0));
            refused("asked, what " + wrong, desk -> desk.asked(0, wrong));
        }
    }

    private static void wouldBes() {
        for (int paper : new int[] {LEAST, -1, 4, GREATEST}) {
            refused("wouldBe of paper " + paper, desk -> desk.wouldBe(paper, 0, 0));
        }
        for (int member : new int[] {LEAST, -1, 1, 2, 3, 5, GREATEST}) {
            refused("wouldBe of member " + member, desk -> desk.wouldBe(0, member, 0));
        }
    }

    private static void corrects() {
        refused("correct, taken already", RefusedTest::corrected, desk -> desk.correct());
        refused("correct without a check", RefusedTest::unchecked, desk -> desk.correct());
    }

    private static void fullTape() {
        for (int length : new int[] {2981, 2999, 3000}) {
            refused("feed behind " + length, () -> {
                CustomsDesk desk = new CustomsDesk();
                for (int i = 0; i < 150; i++) {
                    desk.feed(0x20202020, 0x20202020, 0x20202020, 0x20202020, 0x20202020);
                }
                desk.end(length);
                return desk;
            }, desk -> desk.feed(-1, -1, -1, -1, -1));
        }
    }

    private static void allPapers() {
        refused("paper 200", () -> {
            CustomsDesk desk = Desk.of("chain c:all;kind k{i:int=need?;}").desk;
            for (int i = 0; i < 200; i++) {
                desk.paper(0);
            }
            return desk;
        }, desk -> desk.paper(0));
    }

    private static void noText() {
        Maker maker = CustomsDesk::new;
        refused("end(1)", maker, desk -> desk.end(1));
        refused("kind", maker, desk -> desk.kind(0, 0));
        refused("paper", maker, desk -> desk.paper(0));
        refused("setInt", maker, desk -> answer(desk.setInt(0, 0, 1, true)));
        refused("setText", maker, desk -> answer(desk.setText(0, 0, 'a', true)));
        refused("link", maker, desk -> answer(desk.link(0, 0, NONE)));
        refused("item", maker, desk -> desk.item(0, 0, 0));
        refused("value", maker, desk -> desk.value(0, 0, 0));
        refused("check", maker, desk -> desk.check(0, 0));
        refused("groups", maker, desk -> desk.groups());
        refused("wouldBe", maker, desk -> desk.wouldBe(0, 0, 0));
        refused("correct", maker, desk -> desk.correct());
    }

    /** "NONE: a FAULT (all before stays)": but for the TAPE, which is empty, and the FAULT itself. */
    private static void faultyTexts() {
        String[] texts = {"$", "kind", "kind z { } kind z { }", "rule z = + ;", "chain z : z;", "kind k { } group r; mark x = q;"};
        for (String text : texts) {
            CustomsDesk want = filled();
            want.end(0);
            CustomsDesk got = filled();
            got.end(0);
            Desk tape = new Desk(got);
            Desk.due("take of " + text, tape.take(text), NONE);
            List<Integer> wanted = seen(want);
            List<Integer> seen = seen(got);
            for (int i = 2; i < wanted.size(); i++) {
                Desk.due("answer " + i + " behind " + text, seen.get(i), wanted.get(i));
            }
        }
    }
}
