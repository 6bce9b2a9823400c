/** Promises 4 and 5: what a text may be, and the fault of one that is not so. */
public final class TextTest {
    public static void main(String[] args) {
        tokens();
        groupsAndChains();
        steps();
        noStep();
        builtInNames();
        uses();
        kinds();
        tooMany();
        toldTwice();
        leastAtOnePlace();
        toldNowhere();
        Desk.finish();
    }

    private static void tokens() {
        Desk.dueWell("");
        Desk.dueWell(" \n ");
        Desk.dueWell("kind a{}kind b{}");
        Desk.dueWell("kind\na\n{\n}");
        Desk.dueFault("\tkind a{}", 1, 0);
        Desk.dueFault("kind a{}\0", 1, 8);
        Desk.dueFault("kind a{}\u00e9", 1, 8);
        Desk.dueFault("kind A{}", 1, 5);
        Desk.dueFault("kind a.{}", 1, 6);
        Desk.dueFault("kind a_{}", 1, 6);
        Desk.dueWell("kind abcdefgh{}");
        Desk.dueWell("kind a1234567{}");
        Desk.dueFault("kind abcdefghi{}", 2, 13);
        Desk.dueFault("kind 1a{}", 1, 5);
        Desk.dueWell("mark m = least(123456789), least(-123456789), least(000), least(-0);");
        Desk.dueFault("mark m = least(1234567890);", 1, 15);
        Desk.dueFault("mark m = least(-1234567890);", 2, 15);
        Desk.dueFault("mark m = least(1x);", 1, 15);
        Desk.dueFault("mark m = least(- 1);", 2, 15);
        Desk.dueWell("rule r = 1 -1-;");
        Desk.dueFault("rule r = 1 1 -1a;", 1, 14);
        Desk.dueWell("mark m = need \"" + "~".repeat(30) + "\";");
        Desk.dueWell("mark m = need\"\";");
        Desk.dueFault("mark m = need \"" + "x".repeat(31) + "\";", 1, 14);
        Desk.dueFault("mark m = need \"x", 1, 14);
        Desk.dueFault("mark m = need \"x\n\";", 1, 14);
        Desk.dueFault("mark m = need \"\u007f\";", 1, 14);
        Desk.dueFault("need", 2, 0);
        Desk.dueFault(";", 2, 0);
        Desk.dueFault("7", 2, 0);
        Desk.dueFault("of", 2, 0);
    }

    private static void groupsAndChains() {
        Desk.dueWell("group a; group b : a, all, a; chain c : b, a, b; chain d:all;");
        Desk.dueFault("group", 2, 5);
        Desk.dueFault("group  \n", 2, 8);
        Desk.dueFault("group all;", 3, 6);
        Desk.dueFault("group need;", 3, 6);
        Desk.dueFault("group kind;", 2, 6);
        Desk.dueFault("group a :;", 2, 9);
        Desk.dueFault("group a : all,;", 2, 14);
        Desk.dueFault("group a : all all;", 2, 14);
        Desk.dueFault("group a", 2, 7);
        Desk.dueFault("chain c;", 2, 7);
        Desk.dueFault("chain c : ;", 2, 10);
        Desk.dueFault("chain c : all", 2, 13);
        Desk.dueFault("group a : list;", 2, 10);
    }

    private static void steps() {
        Desk.dueWell("rule r = v;");
        Desk.dueWell("rule r starts = v;");
        Desk.dueWell("rule r starts 1 2 == = v;");
        Desk.dueWell("rule r starts 1 2 = = = v a = = b = =;");
        Desk.dueWell("rule r = v a + b - 1 * 2 / 3 % 4 < 5 > 6 & 7 | ~ 1 ==;");
        Desk.dueFault("rule r;", 2, 6);
        Desk.dueFault("rule r = v", 2, 10);
        Desk.dueFault("rule r = c;", 2, 9);
        Desk.dueFault("rule r = v !;", 2, 11);
        Desk.dueFault("rule r = v v = ;", 2, 15);
        Desk.dueFault("rule r = v v = 1;", 2, 15);
        Desk.dueFault("rule r starts v = v;", 4, 14);
        Desk.dueFault("rule r starts 1 b = v;", 4, 16);
        Desk.dueFault("rule r starts 1; = v;", 2, 15);
        Desk.dueFault("rule r starts 1 2 = v;", 4, 18);
        Desk.dueFault("rule r starts 1 == = v;", 4, 16);
        Desk.dueFault("rule r starts ~ = v;", 4, 14);
        Desk.dueFault("rule r = v v;", 4, 12);
        Desk.dueFault("rule r = +;", 4, 9);
        Desk.dueFault("rule r = v +;", 4, 11);
        Desk.dueFault("rule r = ~;", 4, 9);
        Desk.dueFault("rule r = v ==;", 4, 11);
        Desk.dueWell("rule r = " + "v ".repeat(16) + "+".repeat(15) + ";");
        Desk.dueFault("rule r = " + "v ".repeat(17) + "+".repeat(16) + ";", 4, 41);
        Desk.dueWell("rule r = v" + "~".repeat(39) + ";");
        Desk.dueFault("rule r = v" + "~".repeat(40) + ";", 2, 49);
        Desk.dueWell("rule r starts 1" + "~".repeat(39) + " = v" + "~".repeat(39) + ";");
        Desk.dueFault("rule r starts 1" + "~".repeat(40) + " = v;", 2, 54);
        Desk.dueFault("rule r = v" + "~".repeat(39) + "==;", 2, 49);
        Desk.dueFault("rule r = v" + "~".repeat(39) + "+;", 2, 49);
    }

    /** The ; may stand behind =, but steps that leave nothing do not come out. */
    private static void noStep() {
        Desk.dueFault("rule r = ;", 4, 9);
        Desk.dueFault("rule r=;", 4, 7);
        Desk.dueFault("rule r = \n ; kind k { }", 4, 11);
        Desk.dueFault("rule r starts = ;", 4, 16);
        Desk.dueFault("rule r starts 1 = ;", 4, 18);
        Desk.dueFault("rule q = v; rule r = ;", 4, 21);
        Desk.dueFault("rule r = ; rule r = v;", 4, 9);
        Desk.dueFault("rule r =", 2, 8);
        Desk.dueFault("rule r = , ;", 2, 9);
        Desk.dueFault("rule r = $;", 1, 9);
        Desk.dueFault("rule r starts ;", 2, 14);
        Desk desk = Desk.of("kind k { x : int; }");
        Desk.due("a paper ahead of the fault", desk.desk.paper(0), 0);
        Desk.due("take of a rule without a step", desk.take("rule r = ;"), CustomsDesk.NONE);
        Desk.due("the kind ahead of the fault stays", desk.desk.named(Desk.name("k")), 500);
        Desk.due("the rule is not there", desk.desk.named(Desk.name("r")), CustomsDesk.NONE);
        Desk.due("the paper ahead of the fault stays", desk.desk.setInt(0, 0, 7, true), true);
    }

    /** The built-in rules have their names ahead of every text; only members may have them, too. */
    private static void builtInNames() {
        String[] names = {"need", "go", "least", "most", "size", "oneof", "below", "total"};
        for (String name : names) {
            Desk.dueFault("group " + name + ";", 3, 6);
            Desk.dueFault("group " + name + " : all;", 3, 6);
            Desk.dueFault("chain " + name + " : all;", 3, 6);
            Desk.dueFault("rule " + name + " = v;", 3, 5);
            Desk.dueFault("rule " + name + " starts 1 = v;", 3, 5);
            Desk.dueFault("mark " + name + " = need;", 3, 5);
            Desk.dueFault("kind " + name + " { }", 3, 5);
            Desk.dueFault("kind k { } kind " + name + " of k { }", 3, 16);
            Desk.dueWell("kind k { " + name + " : int = least(1); }");
            Desk.dueWell("kind " + name + "s { } group x" + name + ";");
            Desk.dueFault("kind k { x : " + name + "; }", 5, 13);
            Desk.dueFault("kind k { x : list " + name + "; }", 5, 18);
            Desk.dueFault("kind k of " + name + " { }", 5, 10);
            Desk.dueFault("chain c : " + name + ";", 5, 10);
            Desk.dueFault("mark m = need @ " + name + ";", 5, 16);
        }
        Desk.dueFault("rule need = \0", 3, 5);
        Desk.dueFault("rule need", 3, 5);
        Desk.dueFault("rule \n go go", 3, 7);
        Desk.dueFault("kind k { x : nix; } rule size = v;", 3, 25);
        Desk.dueFault("rule r = ; rule need = v;", 4, 9);
        Desk.dueFault("rule 7 = v; rule need = v;", 2, 5);
        Desk.dueFault("rule starts = v;", 2, 5);
        Desk.dueFault(Desk.numbered(7, "group g#;") + "group need;", 2, 63);
        Desk desk = Desk.of("kind k { }");
        Desk.due("take of a built-in name", desk.take("kind need { }"), CustomsDesk.NONE);
        Desk.due("the kind ahead of it stays", desk.desk.named(Desk.name("k")), 500);
        Desk.due("a built-in name is none of a text's", desk.desk.named(Desk.name("need")), CustomsDesk.NONE);
    }

    private static void uses() {
        Desk.dueWell("group g; mark m = need ! @ g # 7 \"x\", go ? # -7, size(1, 2) @ all, oneof(1,2,3,x)\"\";");
        Desk.dueWell("mark m = m(1, 2, 3, 4);");
        Desk.dueFault("mark m = least(1, 2, 3, 4, 5);", 2, 27);
        Desk.dueFault("mark m = least();", 2, 15);
        Desk.dueFault("mark m = least(1,);", 2, 17);
        Desk.dueFault("mark m = least(1;", 2, 16);
        Desk.dueFault("mark m = least(of);", 2, 15);
        Desk.dueFault("mark m = least(\"x\");", 2, 15);
        Desk.dueFault("mark m = ;", 2, 9);
        Desk.dueFault("mark m ;", 2, 7);
        Desk.dueFault("mark m = need, ;", 2, 15);
        Desk.dueFault("mark m = need ! ?;", 2, 16);
        Desk.dueFault("mark m = need @ 1;", 2, 16);
        Desk.dueFault("mark m = need @ int;", 2, 16);
        Desk.dueFault("mark m = need # x;", 2, 16);
        Desk.dueFault("mark m = need # 1 @ all;", 2, 18);
        Desk.dueFault("mark m = need \"x\" # 1;", 2, 18);
        Desk.dueFault("mark m = int;", 2, 9);
    }

    private static void kinds() {
        Desk.dueWell("kind k { * = below(a, b); a : int; b : int = need; * = need; t : text; l : list k; k : k; }");
        Desk.dueWell("kind k { need : int; all : text; v : l; } kind l of k { m : list k = go; }");
        Desk.dueFault("kind k", 2, 6);
        Desk.dueFault("kind k {", 2, 8);
        Desk.dueFault("kind k { a : int }", 2, 17);
        Desk.dueFault("kind k { a int; }", 2, 11);
        Desk.dueFault("kind k { a : ; }", 2, 13);
        Desk.dueFault("kind k { a : kind; }", 2, 13);
        Desk.dueFault("kind k { a : list; }", 2, 17);
        Desk.dueFault("kind k { a : list int; }", 2, 18);
        Desk.dueFault("kind k { a : int = ; }", 2, 19);
        Desk.dueFault("kind k { * need; }", 2, 11);
        Desk.dueFault("kind k { * : int; }", 2, 11);
        Desk.dueFault("kind k { int : int; }", 2, 9);
        Desk.dueFault("kind k of { }", 2, 10);
        Desk.dueFault("kind k { };", 2, 10);
    }

    private static void tooMany() {
        Desk.dueWell(Desk.numbered(7, "group g#;"));
        Desk.dueFault(Desk.numbered(8, "group g#;"), 2, 63);
        Desk.dueWell(Desk.numbered(6, "chain c#:all;"));
        Desk.dueFault(Desk.numbered(7, "chain c#:all;"), 2, 78);
        Desk.dueWell("group g : all" + ",all".repeat(7) + ";");
        Desk.dueFault("group g : all" + ",all".repeat(8) + ";", 2, 42);
        Desk.dueWell("chain c : all" + ",all".repeat(7) + ";");
        Desk.dueFault("chain c : all" + ",all".repeat(8) + ";", 2, 42);
        Desk.dueWell(Desk.numbered(16, "rule r#=v;"));
        Desk.dueFault(Desk.numbered(16, "rule r#=v;") + "rule", 2, 166);
        Desk.dueWell(Desk.numbered(16, "mark m#=go;"));
        Desk.dueFault(Desk.numbered(16, "mark m#=go;") + "mark", 2, 182);
        Desk.dueWell(Desk.numbered(16, "kind k#{}"));
        Desk.dueFault(Desk.numbered(16, "kind k#{}") + "kind", 2, 150);
        String all = Desk.numbered(7, "group g#;") + Desk.numbered(6, "chain c#:all;") + Desk.numbered(16, "rule r#=v;")
            + Desk.numbered(16, "mark m#=go;") + Desk.numbered(16, "kind k#{}");
        Desk.dueWell(all);
        Desk.dueWell("kind k {" + Desk.numbered(12, "m#:int;") + "}");
        Desk.dueFault("kind k {" + Desk.numbered(13, "m#:int;") + "}", 2, 94);
        String above = "kind k {" + Desk.numbered(12, "m#:int;") + "}";
        Desk.dueWell(above + "kind l of k { }");
        Desk.dueFault(above + "kind l of k { x : int; }", 2, above.length() + 14);
        Desk.dueWell("kind k { a : int = need" + ",need".repeat(7) + "; }");
        Desk.dueFault("kind k { a : int = need" + ",need".repeat(8) + "; }", 2, 59);
        Desk.dueWell("mark m = need" + ",need".repeat(7) + ";");
        Desk.dueFault("mark m = need" + ",need".repeat(8) + ";", 2, 49);
        Desk.dueWell("kind k { " + "* = need;".repeat(8) + " }");
        Desk.dueFault("kind k { " + "* = need;".repeat(9) + " }", 2, 85);
    }

    private static void toldTwice() {
        Desk.dueFault("group a; chain a : all;", 3, 15);
        Desk.dueFault("rule a = v; mark a = go;", 3, 17);
        Desk.dueFault("kind a { } kind a { }", 3, 16);
        Desk.dueFault("mark all = go;", 3, 5);
        Desk.dueFault("kind k { a : int; a : text; }", 3, 18);
        Desk.dueFault("kind k { a : int; } kind l of k { b : int; a : text; }", 3, 43);
        Desk.dueFault("kind k { a : int; } kind l of k { } kind m of l { a : int; }", 3, 50);
        Desk.dueWell("kind k { a : int; } kind l { a : int; }");
        Desk.dueFault("kind total { }", 3, 5);
        // The first by its place, though one of a lesser number stands behind it.
        Desk.dueFault("kind k { a : int; a : text; .", 3, 18);
        // A kind that is not told ahead has no members yet, so that no other fault is ahead of fault 5.
        Desk.dueFault("kind l of k { a : int; } kind k { a : int; }", 5, 10);
    }

    private static void leastAtOnePlace() {
        String full = "kind k {" + Desk.numbered(12, "m#:int;") + "}";
        String thirteen = full.substring(0, full.length() - 1) + "m1:int;}";
        Desk.dueFault(thirteen, 2, full.length() - 1);
        Desk.dueFault("rule r = v" + "~".repeat(39) + ".", 1, 49);
        Desk.dueFault("mark m = least(1,2,3,4,.", 1, 23);
    }

    private static void toldNowhere() {
        Desk.dueFault("group a : b; group b;", 5, 10);
        Desk.dueFault("group a : a;", 5, 10);
        Desk.dueFault("group a : all, x;", 5, 15);
        Desk.dueFault("chain c : c;", 5, 10);
        Desk.dueWell("chain c : g; group g;");
        Desk.dueFault("kind a of a { }", 5, 10);
        Desk.dueFault("kind a of b { } kind b { }", 5, 10);
        Desk.dueFault("group g; kind a of g { }", 5, 19);
        Desk.dueWell("kind b { } kind a of b { }");
        Desk.dueFault("kind a { m : b; }", 5, 13);
        Desk.dueFault("kind a { m : list all; }", 5, 18);
        Desk.dueWell("kind a { m : b; l : list c; } kind b { } kind c { }");
        Desk.dueFault("kind a { m : int = x; }", 5, 19);
        Desk.dueFault("kind a { m : int = a; }", 5, 19);
        Desk.dueWell("kind a { m : int = x, y; } rule x = v; mark y = x;");
        Desk.dueFault("mark m = need @ m;", 5, 16);
        Desk.dueWell("mark m = need @ g; group g;");
        Desk.dueWell("mark m = below(x, y);");
        // The first by its place; and none of these if there is another fault.
        Desk.dueFault("mark m = x @ y; kind k of z { }", 5, 9);
        Desk.dueFault("mark m = x; kind k { } kind k { }", 3, 28);
        Desk.dueFault("mark m = x; kind", 2, 16);
    }
}
