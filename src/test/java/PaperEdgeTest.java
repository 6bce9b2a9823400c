/** Promises 6 to 8 and 10 to 15 at their boundaries: names, kinds, papers and what they have. */
public final class PaperEdgeTest {
    private static final int NONE = CustomsDesk.NONE;
    private static final int LEAST = Integer.MIN_VALUE;
    private static final int GREATEST = Integer.MAX_VALUE;

    public static void main(String[] args) {
        zerosAreLeftOut();
        allHasNumberZero();
        lastOfEachSort();
        kindsAtTheirEdges();
        membersOfTheTopmostFirst();
        nothingAtFirst();
        twoHundredPapers();
        papersOfTheLastKind();
        intsAtTheirEdges();
        takenAwayInts();
        everyByteOfAText();
        eightLetters();
        takenAwayTexts();
        linksOfItsKindOrBelow();
        linkToNothing();
        twentyItems();
        itemsOfItsKindOrBelow();
        listAsTheFirstMember();
        theTwelfthMember();
        valuesAtTheirEdges();
        Desk.finish();
    }

    /** "by the bytes of a long, the highest first, 0s left out". */
    private static void zerosAreLeftOut() {
        CustomsDesk desk = Desk.of("group ab; kind abcdefgh { ab : int; b : int; hgfedcba : int; }").desk;
        for (int high = 1; high < 8; high++) {
            for (int low = 0; low < high; low++) {
                long name = (long) 'a' << (8 * high) | (long) 'b' << (8 * low);
                Desk.due("ab with 0s", desk.named(name), 101);
                Desk.due("ab with 0s", desk.member(0, name), 0);
                long turned = (long) 'b' << (8 * high) | (long) 'a' << (8 * low);
                Desk.due("ba with 0s", desk.named(turned), NONE);
                Desk.due("ba with 0s", desk.member(0, turned), NONE);
            }
        }
        Desk.due("all eight bytes", desk.named(Desk.name("abcdefgh")), 500);
        Desk.due("all eight bytes", desk.member(0, Desk.name("hgfedcba")), 2);
        Desk.due("seven of them", desk.named(Desk.name("abcdefg")), NONE);
        Desk.due("no byte", desk.named(0), NONE);
        Desk.due("no byte", desk.member(0, 0), NONE);
        Desk.due("bytes 255", desk.named(-1), NONE);
        Desk.due("the least long", desk.named(Long.MIN_VALUE), NONE);
        Desk.due("one with byte 128", desk.member(0, 0x8062L), NONE);
    }

    /** "The group all is there ahead of a text, with number 0." */
    private static void allHasNumberZero() {
        Desk made = new Desk();
        Desk.due("in a new object", made.desk.named(Desk.name("all")), 100);
        made.take("group g;");
        Desk.due("behind a text", made.desk.named(Desk.name("all")), 100);
        Desk.due("the first of a text", made.desk.named('g'), 101);
        for (String word : new String[] {"need", "go", "least", "most", "size", "oneof", "below", "total", "group", "int"}) {
            Desk.due("named " + word, made.desk.named(Desk.name(word)), NONE);
        }
    }

    /** "sort * 100 + number". */
    private static void lastOfEachSort() {
        CustomsDesk desk = Desk.of(Desk.numbered(7, "group g#;") + Desk.numbered(6, "chain c#:all;")
            + Desk.numbered(16, "rule r#=v;") + Desk.numbered(16, "mark m#=go;") + Desk.numbered(16, "kind k#{}")).desk;
        String[] names = {"g0", "g6", "c0", "c5", "r0", "r15", "m0", "m15", "k0", "k15"};
        int[] want = {101, 107, 200, 205, 300, 315, 400, 415, 500, 515};
        for (int i = 0; i < names.length; i++) {
            Desk.due("named " + names[i], desk.named(Desk.name(names[i])), want[i]);
        }
        Desk.due("one more", desk.named(Desk.name("k16")), NONE);
    }

    private static void kindsAtTheirEdges() {
        CustomsDesk desk = Desk.of(Desk.numbered(15, "kind k#{}") + "kind z of k14{" + Desk.numbered(12, "m#:int;") + "}").desk;
        Desk.due("members of the first", desk.kind(0, 0), 0);
        Desk.due("of the last", desk.kind(15, 0), 12);
        Desk.due("the first is of none", desk.kind(0, 1), NONE);
        Desk.due("the last is of", desk.kind(15, 1), 14);
        for (int kind : new int[] {LEAST, -1, 16, GREATEST}) {
            Desk.due("kind " + kind, desk.kind(kind, 0), NONE);
            Desk.due("kind " + kind, desk.kind(kind, 1), NONE);
            Desk.due("member of kind " + kind, desk.member(kind, Desk.name("m0")), NONE);
        }
        for (int what : new int[] {LEAST, -1, 2, GREATEST}) {
            Desk.due("what " + what, desk.kind(15, what), NONE);
        }
        Desk.due("the first member", desk.member(15, Desk.name("m0")), 0);
        Desk.due("the twelfth", desk.member(15, Desk.name("m11")), 11);
        Desk.due("none such", desk.member(15, Desk.name("m12")), NONE);
        Desk.due("of another kind", desk.member(14, Desk.name("m0")), NONE);
    }

    /** "Members of a kind: those of the topmost kind first, in order." */
    private static void membersOfTheTopmostFirst() {
        CustomsDesk desk = Desk.of("kind a { z : int; y : int; } kind b of a { x : int; } kind c of b { w : int; v : int; }").desk;
        String order = "zyxwv";
        for (int i = 0; i < 5; i++) {
            Desk.due("member of c", desk.member(2, order.charAt(i)), i);
            Desk.due("member of b", desk.member(1, order.charAt(i)), i < 3 ? i : NONE);
            Desk.due("member of a", desk.member(0, order.charAt(i)), i < 2 ? i : NONE);
        }
    }

    /** "each member has nothing at first". */
    private static void nothingAtFirst() {
        CustomsDesk desk = Desk.of("kind k { i : int; t : text; p : k; l : list k; }").desk;
        desk.paper(0);
        for (int member = 0; member < 4; member++) {
            // A list is always there.
            Desk.due("there " + member, desk.value(0, member, 0), member == 3 ? 1 : 0);
            Desk.due("value " + member, desk.value(0, member, 1), 0);
        }
    }

    /** "PAPERS are numbered from 0 on, 200 at most". */
    private static void twoHundredPapers() {
        Desk made = Desk.of("chain c : all; kind k { i : int = need; }");
        CustomsDesk desk = made.desk;
        for (int i = 0; i < 200; i++) {
            Desk.due("paper", desk.paper(0), i);
        }
        Desk.due("the 201st", desk.paper(0), NONE);
        Desk.due("the last one's member", desk.setInt(199, 0, 5, true), true);
        Desk.due("the last one's value", desk.value(199, 0, 1), 5);
        Desk.due("check of the last one", desk.check(199, 0), 0);
        Desk.due("none behind it", desk.setInt(200, 0, 5, true), false);
        Desk.due("none behind it", desk.value(200, 0, 0), NONE);
        Desk.due("none behind it", desk.check(200, 0), NONE);
        made.take("kind k { i : int; }");
        Desk.due("a text that is taken ends them", desk.value(0, 0, 0), NONE);
        Desk.due("from 0 on again", desk.paper(0), 0);
        Desk.due("with nothing", desk.value(0, 0, 0), 0);
    }

    private static void papersOfTheLastKind() {
        CustomsDesk desk = Desk.of("kind a { } kind b { }").desk;
        Desk.due("kind 2", desk.paper(2), NONE);
        Desk.due("kind -1", desk.paper(-1), NONE);
        Desk.due("the least", desk.paper(LEAST), NONE);
        Desk.due("the greatest", desk.paper(GREATEST), NONE);
        Desk.due("refused ones have no number", desk.paper(1), 0);
        Desk.due("kind 0", desk.paper(0), 1);
        Desk.due("no kinds", new CustomsDesk().paper(0), NONE);
    }

    private static void intsAtTheirEdges() {
        CustomsDesk desk = Desk.of("kind k { i : int; j : int; }").desk;
        desk.paper(0);
        for (int v : new int[] {LEAST, -1, 0, 1, GREATEST}) {
            Desk.due("setInt", desk.setInt(0, 0, v, true), true);
            Desk.due("there", desk.value(0, 0, 0), 1);
            Desk.due("value", desk.value(0, 0, 1), v);
            Desk.due("the other is not", desk.value(0, 1, 0), 0);
        }
        for (int wrong : new int[] {LEAST, -1, 2, GREATEST}) {
            Desk.due("member " + wrong, desk.setInt(0, wrong, 1, true), false);
        }
        for (int wrong : new int[] {LEAST, -1, 1, GREATEST}) {
            Desk.due("paper " + wrong, desk.setInt(wrong, 0, 1, true), false);
        }
    }

    /** "there: false takes it away (v does not count)". */
    private static void takenAwayInts() {
        CustomsDesk desk = Desk.of("kind k { i : int; }").desk;
        desk.paper(0);
        Desk.due("what is not there", desk.setInt(0, 0, 9, false), true);
        Desk.due("there", desk.value(0, 0, 0), 0);
        Desk.due("value", desk.value(0, 0, 1), 0);
        desk.setInt(0, 0, 7, true);
        Desk.due("what is there", desk.setInt(0, 0, 9, false), true);
        Desk.due("there", desk.value(0, 0, 0), 0);
        Desk.due("value", desk.value(0, 0, 1), 0);
    }

    /** "letters are bytes 32 .. 126; other bytes than these and 0 are refused, also where there is false". */
    private static void everyByteOfAText() {
        for (int place = 0; place < 8; place++) {
            CustomsDesk desk = Desk.of("kind k { t : text; }").desk;
            desk.paper(0);
            for (int b : new int[] {0, 1, 10, 31, 32, 33, 97, 125, 126, 127, 128, 160, 254, 255}) {
                boolean well = b == 0 || (b >= 32 && b <= 126);
                desk.setText(0, 0, Desk.name("abc"), true);
                long letters = (long) b << (8 * place);
                Desk.due("away with byte " + b, desk.setText(0, 0, letters, false), well);
                Desk.due("there", desk.value(0, 0, 0), well ? 0 : 1);
                desk.setText(0, 0, Desk.name("abc"), true);
                Desk.due("byte " + b, desk.setText(0, 0, letters, true), well);
                Desk.due("letters", desk.value(0, 0, 1), b == 0 ? 0 : well ? 1 : 3);
                Desk.due("there", desk.value(0, 0, 0), 1);
            }
        }
    }

    /** "a text (a long of 8 bytes, 0s left out: its letters)". */
    private static void eightLetters() {
        CustomsDesk desk = Desk.of("kind k { t : text; }").desk;
        desk.paper(0);
        for (int letters = 0; letters <= 8; letters++) {
            Desk.due("setText", desk.setText(0, 0, Desk.name("~".repeat(letters)), true), true);
            Desk.due("letters", desk.value(0, 0, 1), letters);
            Desk.due("there, also with none", desk.value(0, 0, 0), 1);
        }
        Desk.due("0s between", desk.setText(0, 0, 0x2000200020007e00L, true), true);
        Desk.due("letters", desk.value(0, 0, 1), 4);
    }

    private static void takenAwayTexts() {
        CustomsDesk desk = Desk.of("kind k { t : text; i : int; }").desk;
        desk.paper(0);
        desk.setText(0, 0, Desk.name("abc"), true);
        Desk.due("away", desk.setText(0, 0, Desk.name("x"), false), true);
        Desk.due("there", desk.value(0, 0, 0), 0);
        Desk.due("letters", desk.value(0, 0, 1), 0);
        Desk.due("no text", desk.setText(0, 1, 'x', true), false);
        Desk.due("no text", desk.setText(0, 1, 'x', false), false);
        for (int wrong : new int[] {LEAST, -1, 2, GREATEST}) {
            Desk.due("member " + wrong, desk.setText(0, wrong, 'x', true), false);
        }
        for (int wrong : new int[] {LEAST, -1, 1, GREATEST}) {
            Desk.due("paper " + wrong, desk.setText(wrong, 0, 'x', true), false);
        }
    }

    private static final String LINE = "kind a { } kind b of a { p : b; l : list b; } kind c of b { } kind d of c { }"
        + " kind e of a { p : a; }";

    /** "a paper of its kind (or of one below)". */
    private static void linksOfItsKindOrBelow() {
        CustomsDesk desk = Desk.of(LINE).desk;
        for (int kind = 0; kind < 5; kind++) {
            desk.paper(kind);
        }
        boolean[] fits = {false, true, true, true, false};
        for (int other = 0; other < 5; other++) {
            Desk.due("link to " + other, desk.link(1, 0, other), fits[other]);
            Desk.due("from a paper below to " + other, desk.link(3, 0, other), fits[other]);
            Desk.due("to any of a: " + other, desk.link(4, 0, other), true);
        }
        Desk.due("the last one that fits stays", desk.value(1, 0, 1), 3);
        for (int wrong : new int[] {LEAST, -2, 5, GREATEST}) {
            Desk.due("link to " + wrong, desk.link(1, 0, wrong), false);
            Desk.due("member " + wrong, desk.link(1, wrong, 1), false);
            Desk.due("paper " + wrong, desk.link(wrong, 0, 1), false);
        }
        Desk.due("a list is none", desk.link(1, 1, 1), false);
        Desk.due("it stays", desk.value(1, 0, 1), 3);
    }

    /** "A kind's member is that paper (NONE: nothing)." */
    private static void linkToNothing() {
        CustomsDesk desk = Desk.of(LINE).desk;
        desk.paper(1);
        Desk.due("nothing to nothing", desk.link(0, 0, NONE), true);
        Desk.due("there", desk.value(0, 0, 0), 0);
        Desk.due("to paper 0", desk.link(0, 0, 0), true);
        Desk.due("there", desk.value(0, 0, 0), 1);
        Desk.due("paper 0", desk.value(0, 0, 1), 0);
        desk.paper(2);
        desk.link(0, 0, 1);
        Desk.due("paper 1", desk.value(0, 0, 1), 1);
        Desk.due("to nothing", desk.link(0, 0, NONE), true);
        Desk.due("there", desk.value(0, 0, 0), 0);
        Desk.due("value", desk.value(0, 0, 1), 0);
        Desk.due("of a list nothing", desk.link(0, 1, NONE), false);
        Desk.due("of no member nothing", desk.link(0, 2, NONE), false);
        Desk.due("of no paper nothing", desk.link(2, 0, NONE), false);
    }

    /** "a list of such (20 at most)". */
    private static void twentyItems() {
        CustomsDesk desk = Desk.of(LINE).desk;
        desk.paper(1);
        desk.paper(1);
        for (int i = 1; i <= 20; i++) {
            Desk.due("item", desk.item(0, 1, i % 2), i);
            Desk.due("how many", desk.value(0, 1, 1), i);
        }
        Desk.due("the 21st", desk.item(0, 1, 0), NONE);
        Desk.due("how many", desk.value(0, 1, 1), 20);
        Desk.due("of the other paper", desk.value(1, 1, 1), 0);
        Desk.due("of the other paper", desk.item(1, 1, 0), 1);
    }

    private static void itemsOfItsKindOrBelow() {
        CustomsDesk desk = Desk.of(LINE).desk;
        for (int kind = 0; kind < 5; kind++) {
            desk.paper(kind);
        }
        int[] want = {NONE, 1, 2, 3, NONE};
        for (int other = 0; other < 5; other++) {
            Desk.due("item " + other, desk.item(1, 1, other), want[other]);
        }
        for (int wrong : new int[] {LEAST, -1, 5, GREATEST}) {
            Desk.due("item " + wrong, desk.item(1, 1, wrong), NONE);
            Desk.due("member " + wrong, desk.item(1, wrong, 1), NONE);
            Desk.due("paper " + wrong, desk.item(wrong, 1, 1), NONE);
        }
        Desk.due("no list", desk.item(1, 0, 1), NONE);
        Desk.due("how many", desk.value(1, 1, 1), 3);
    }

    private static void listAsTheFirstMember() {
        CustomsDesk desk = Desk.of("kind k { l : list k; }").desk;
        desk.paper(0);
        Desk.due("item", desk.item(0, 0, 0), 1);
        Desk.due("how many", desk.value(0, 0, 1), 1);
    }

    private static void theTwelfthMember() {
        String eleven = Desk.numbered(11, "m#:int;");
        CustomsDesk ints = Desk.of("kind k{" + eleven + "x:int;}").desk;
        ints.paper(0);
        Desk.due("setInt", ints.setInt(0, 11, 3, true), true);
        Desk.due("value", ints.value(0, 11, 1), 3);
        Desk.due("wouldBe", ints.wouldBe(0, 11, 3), 0);
        Desk.due("the 13th", ints.setInt(0, 12, 3, true), false);
        Desk.due("the 13th", ints.value(0, 12, 0), NONE);
        CustomsDesk texts = Desk.of("kind k{" + eleven + "x:text;}").desk;
        texts.paper(0);
        Desk.due("setText", texts.setText(0, 11, 'x', true), true);
        CustomsDesk links = Desk.of("kind k{" + eleven + "x:k;}").desk;
        links.paper(0);
        Desk.due("link", links.link(0, 11, 0), true);
        CustomsDesk lists = Desk.of("kind k{" + eleven + "x:list k;}").desk;
        lists.paper(0);
        Desk.due("item", lists.item(0, 11, 0), 1);
    }

    private static void valuesAtTheirEdges() {
        CustomsDesk desk = Desk.of("kind k { i : int; l : list k; }").desk;
        desk.paper(0);
        desk.setInt(0, 0, -1, true);
        Desk.due("a value like NONE", desk.value(0, 0, 1), -1);
        for (int wrong : new int[] {LEAST, -1, 2, GREATEST}) {
            Desk.due("what " + wrong, desk.value(0, 0, wrong), NONE);
            Desk.due("what " + wrong, desk.value(0, 1, wrong), NONE);
            Desk.due("member " + wrong, desk.value(0, wrong, 0), NONE);
        }
        for (int wrong : new int[] {LEAST, -1, 1, GREATEST}) {
            Desk.due("paper " + wrong, desk.value(wrong, 0, 0), NONE);
        }
    }
}
