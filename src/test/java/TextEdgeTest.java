/** Promises 4 and 5: the boundaries of TOKENS and of the FAULTS that a TEXT may have. */
public final class TextEdgeTest {
    private static final String SIGNS = ";:,(){}=!?@#+-*/%<>&|~";
    private static final String[] WORDS = {"group", "chain", "rule", "starts", "mark", "kind", "of", "int", "text", "list"};

    public static void main(String[] args) {
        everyByteAlone();
        everyByteBetween();
        everyByteOfAName();
        everyByteOfAString();
        asLongAsCanBe();
        numbers();
        strings();
        words();
        wordsThatAreMore();
        rowsOfGroups();
        toldAhead();
        toldAnywhere();
        noneTwice();
        membersNoneTwice();
        noLettersInStarts();
        pile();
        justOne();
        stepsOfStarts();
        equalsInStarts();
        stepsAtMost();
        argsAtMost();
        usesAtMost();
        membersAtMost();
        partsAtMost();
        endOfTheText();
        notThere();
        firstByItsPlace();
        leastAtOnePlace();
        fiveOnlyWithoutOthers();
        Desk.finish();
    }

    private static boolean isLetter(int b) {
        return b >= 'a' && b <= 'z';
    }

    private static boolean isDigit(int b) {
        return b >= '0' && b <= '9';
    }

    private static boolean isBlank(int b) {
        return b == 32 || b == 10;
    }

    private static boolean isSign(int b) {
        return SIGNS.indexOf(b) >= 0;
    }

    private static void everyByteAlone() {
        for (int b = 0; b < 256; b++) {
            String text = "" + (char) b;
            if (isBlank(b)) {
                Desk.dueWell(text);
            } else {
                Desk.dueFault(text, isLetter(b) || isDigit(b) || isSign(b) ? 2 : 1, 0);
            }
        }
    }

    /** "blanks (32, 10) between or not". */
    private static void everyByteBetween() {
        Desk.dueWell("group a;group b;");
        for (int b = 0; b < 256; b++) {
            String text = "group a;" + (char) b + "group b;";
            if (isBlank(b)) {
                Desk.dueWell(text);
            } else {
                // A digit has a letter directly behind it.
                Desk.dueFault(text, isLetter(b) || isSign(b) ? 2 : 1, 8);
            }
        }
    }

    /** "NAMES (a .. z, then a .. z, 0 .. 9; 8 bytes at most)". */
    private static void everyByteOfAName() {
        for (int b = 0; b < 256; b++) {
            String first = "group " + (char) b + ";";
            String second = "group a" + (char) b + ";";
            if (isLetter(b)) {
                Desk.dueWell(first);
            } else {
                Desk.dueFault(first, isBlank(b) || isDigit(b) || isSign(b) ? 2 : 1, isBlank(b) ? 7 : 6);
            }
            if (isLetter(b) || isDigit(b) || isBlank(b)) {
                Desk.dueWell(second);
            } else {
                Desk.dueFault(second, isSign(b) ? 2 : 1, b == ';' || b == ':' ? 8 : 7);
            }
        }
        Desk.dueWell("group abcdefgh;");
        Desk.dueWell("group z9876543;");
        Desk.dueFault("group abcdefghi;", 2, 14);
        Desk.dueFault("group abcdefgh1;", 2, 14);
    }

    /** "STRINGS (" , 0 to 30 bytes 32 .. 126 but " , " )". */
    private static void everyByteOfAString() {
        for (int b = 0; b < 256; b++) {
            String text = "mark m=need\"" + (char) b + "\";";
            if (b == '"') {
                // The second one ends the STRING; the third begins another, which has no end.
                Desk.dueFault(text, 1, 13);
            } else if (b >= 32 && b <= 126) {
                Desk.dueWell(text);
            } else {
                Desk.dueFault(text, 1, 11);
            }
        }
    }

    /** "TOKENS, as long as can be". */
    private static void asLongAsCanBe() {
        Desk.dueFault("groupa;", 2, 0);
        Desk.dueWell("group group1;");
        Desk.dueWell("group int1;");
        Desk.dueFault("kind a{m:intx;}", 5, 9);
        Desk.dueFault("kind a{m:list1;}", 5, 9);
        Desk.dueFault("kind a ofb{}", 2, 7);
        Desk.dueFault("rule r startsx = v;", 2, 7);
        Desk.dueFault("rule r = va;", 2, 9);
        Desk.dueFault("rule r = v1;", 2, 9);
        // -1 is one NUMBER, so that two are on the pile.
        Desk.dueFault("rule r=2 -1;", 4, 11);
        Desk.dueFault("rule r=2-1;", 4, 10);
        Desk.dueWell("rule r=2 1-;");
        Desk.dueWell("rule r=2 1 -;");
        Desk.dueWell("rule r=2-1-;");
    }

    /** "NUMBERS (1 to 9 digits, perhaps - directly ahead; no letter or digit directly behind)". */
    private static void numbers() {
        for (int digits = 1; digits <= 9; digits++) {
            Desk.dueWell("mark m=least(" + "9".repeat(digits) + ");");
            Desk.dueWell("mark m=least(-" + "9".repeat(digits) + ");");
            Desk.dueWell("mark m=least(" + "0".repeat(digits) + ");");
        }
        Desk.dueFault("mark m=least(" + "9".repeat(10) + ");", 1, 13);
        Desk.dueFault("mark m=least(" + "0".repeat(10) + ");", 1, 13);
        Desk.dueFault("mark m=least(-" + "9".repeat(10) + ");", 2, 13);
        Desk.dueFault("rule r = v -" + "9".repeat(10) + ";", 4, 11);
        Desk.dueFault("rule r = v v -" + "9".repeat(10) + ";", 1, 14);
        Desk.dueFault("mark m=least(-);", 2, 13);
        Desk.dueFault("mark m=least(--1);", 2, 13);
        Desk.dueFault("mark m=least(- 1);", 2, 13);
        Desk.dueFault("mark m=least(1a);", 1, 13);
        Desk.dueFault("mark m=least(1z);", 1, 13);
        Desk.dueFault("mark m=least(1 a);", 2, 15);
        Desk.dueFault("mark m=least(1 1);", 2, 15);
        Desk.dueFault("mark m=least(1-1);", 2, 14);
        Desk.dueWell("mark m=need#1\"x\",need#-1;");
        duePayload("999999999", 999999999);
        duePayload("-999999999", -999999999);
        duePayload("000000007", 7);
        duePayload("-000000007", -7);
        duePayload("-0", 0);
    }

    private static void duePayload(String number, int want) {
        Desk made = Desk.of("chain c : all; kind k { x : int = need # " + number + "; }");
        made.desk.paper(0);
        made.desk.check(0, 0);
        Desk.due("payload " + number, made.desk.found(0, 2), want);
    }

    private static void strings() {
        for (int bytes = 0; bytes <= 30; bytes++) {
            Desk.dueWell("mark m=need\"" + "x".repeat(bytes) + "\";");
        }
        Desk.dueFault("mark m=need\"" + "x".repeat(31) + "\";", 1, 11);
        Desk.dueFault("mark m=need\"" + "x".repeat(30) + ";", 1, 11);
        Desk.dueFault("mark m=need\"", 1, 11);
        Desk.dueFault("mark m=need\"x\"\"\";", 2, 14);
        Desk made = Desk.of("chain c : all; kind k { x : int = need \"" + " ;:\\'[]^_`ABCXYZ019~!#$%&()*+," + "\"; }");
        made.desk.paper(0);
        made.desk.check(0, 0);
        made.dueText(0, " ;:\\'[]^_`ABCXYZ019~!#$%&()*+,");
    }

    /** "The WORDs group chain rule starts mark kind of int text list are no other NAMES." */
    private static void words() {
        for (String word : WORDS) {
            Desk.dueFault("group " + word + ";", 2, 6);
            Desk.dueFault("group g : " + word + ";", 2, 10);
            Desk.dueFault("chain " + word + " : all;", 2, 6);
            Desk.dueFault("chain c : " + word + ";", 2, 10);
            Desk.dueFault("chain c : all, " + word + ";", 2, 15);
            Desk.dueFault("rule " + word + " = v;", 2, 5);
            Desk.dueFault("rule r = " + word + ";", 2, 9);
            Desk.dueFault("mark " + word + " = go;", 2, 5);
            Desk.dueFault("mark m = " + word + ";", 2, 9);
            Desk.dueFault("mark m = go(" + word + ");", 2, 12);
            Desk.dueFault("mark m = go @ " + word + ";", 2, 14);
            Desk.dueFault("kind " + word + " { }", 2, 5);
            Desk.dueFault("kind k of " + word + " { }", 2, 10);
            Desk.dueFault("kind k { " + word + " : int; }", 2, 9);
            Desk.dueFault("kind k { a : list " + word + "; }", 2, 18);
            Desk.dueFault("kind k { a : int = " + word + "; }", 2, 19);
            Desk.dueFault("kind k { * = " + word + "; }", 2, 13);
            if (word.equals("int") || word.equals("text")) {
                Desk.dueWell("kind k { a : " + word + "; }");
            } else {
                Desk.dueFault("kind k { a : " + word + "; }", 2, word.equals("list") ? 17 : 13);
            }
        }
    }

    private static void wordsThatAreMore() {
        for (String word : WORDS) {
            Desk.dueWell("group " + word + "1; kind " + word + "x { " + word + "y : int; }");
            Desk.dueWell("group " + word.substring(0, word.length() - 1) + ";");
        }
    }

    /** "8 NAMES in a group's or chain's row (one may come twice)". */
    private static void rowsOfGroups() {
        Desk.dueWell("group g : all; chain c : all;");
        Desk.dueWell("group g : all, all; chain c : g, g;");
        Desk.dueWell("group g : all" + ",all".repeat(7) + ";");
        Desk.dueFault("group g : all" + ",all".repeat(8) + ";", 2, 42);
        Desk.dueWell("chain c : all" + ",all".repeat(7) + ";");
        Desk.dueFault("chain c : all" + ",all".repeat(8) + ";", 2, 42);
        Desk.dueFault("chain c : all" + ",all".repeat(8), 2, 42);
        Desk.dueFault("chain c : all" + ",all".repeat(7) + ",;", 2, 42);
        Desk.dueFault("chain c : ;", 2, 10);
        Desk.dueFault("chain c ;", 2, 8);
        Desk.dueFault("group g : ;", 2, 10);
        Desk.dueWell("group g ;");
    }

    /** "A group takes in groups that are told ahead of it; a kind is of one that is told ahead". */
    private static void toldAhead() {
        Desk.dueWell("group g; group h : g;");
        Desk.dueFault("group h : g; group g;", 5, 10);
        Desk.dueFault("group g : g;", 5, 10);
        Desk.dueWell("group g : all;");
        Desk.dueWell(Desk.numbered(6, "group g#;") + "group x:g0,g1,g2,g3,g4,g5,all;");
        Desk.dueFault("chain c : all; group g : c;", 5, 25);
        Desk.dueWell("kind a { } kind b of a { }");
        Desk.dueFault("kind b of a { } kind a { }", 5, 10);
        Desk.dueFault("kind a of a { }", 5, 10);
        Desk.dueFault("kind a of all { }", 5, 10);
        Desk.dueFault("mark m = go; kind a of m { }", 5, 23);
        Desk.dueFault("kind a of need { }", 5, 10);
        // What has the NAME is no kind, though its number is that of a kind told ahead; its members are no others' then.
        for (String part : new String[] {"chain x:all;", "rule x=v;", "mark x=go;"}) {
            String ahead = "kind k{a:int;}kind l{a:int;}" + part;
            Desk.dueFault(ahead + "kind m of x{a:int;}", 5, ahead.length() + 10);
            Desk.dueFault(ahead + "kind m of all{a:int;}", 5, ahead.length() + 10);
        }
        StringBuilder line = new StringBuilder("kind k0{}");
        for (int i = 1; i < 16; i++) {
            line.append("kind k").append(i).append(" of k").append(i - 1).append("{}");
        }
        Desk.dueWell(line.toString());
    }

    /** "chains' groups, @ groups, kinds of types may stand anywhere in the text; what a use names, too". */
    private static void toldAnywhere() {
        Desk.dueWell("chain c : g; group g;");
        Desk.dueWell("mark m = go @ g; group g;");
        Desk.dueWell("kind k { a : l; b : list l; c : k; } kind l { }");
        Desk.dueWell("kind k { a : int = m, r; } mark m = n; mark n = r; rule r = v;");
        Desk.dueWell("mark m = m;");
        Desk.dueFault("chain c : d; chain d : all;", 5, 10);
        Desk.dueFault("mark m = go @ c; chain c : all;", 5, 14);
        Desk.dueFault("kind k { a : r; } rule r = v;", 5, 13);
        Desk.dueFault("kind k { a : list g; } group g;", 5, 18);
        for (String other : new String[] {"group x;", "chain x : all;", "kind x { }"}) {
            Desk.dueFault("mark m = x; " + other, 5, 9);
        }
        Desk.dueFault("mark m = all;", 5, 9);
        Desk.dueFault("mark m = x;", 5, 9);
        // arg NAMES are not asked.
        Desk.dueWell("mark m = least(x, all, m, need);");
    }

    /** "Groups, chains, rules, marks, kinds have NAMES, of all of these none twice". */
    private static void noneTwice() {
        String[] parts = {"group x;", "chain x:all;", "rule x=v;", "mark x=go;", "kind x{}"};
        int[] places = {6, 6, 5, 5, 5};
        for (int i = 0; i < 5; i++) {
            Desk.dueFault(parts[i].replace("x", "all"), 3, places[i]);
            Desk.dueWell(parts[i].replace("x", "all1"));
            for (int j = 0; j < 5; j++) {
                Desk.dueFault(parts[i] + parts[j], 3, parts[i].length() + places[j]);
                Desk.dueWell(parts[i] + parts[j].replace("x", "y"));
                Desk.dueWell(parts[i] + parts[j].replace("x", "xx"));
            }
        }
        Desk made = Desk.of("group x; kind y { }");
        Desk.due("the NAMES of a text before are free", made.take("kind x { } kind z { } group y;"), 2);
        Desk.due("x", made.desk.named('x'), 500);
        Desk.due("y", made.desk.named('y'), 101);
        Desk.due("the NAMES of a text with a FAULT are free", made.take("kind v { } kind v { }"), CustomsDesk.NONE);
        Desk.due("take", made.take("kind v { }"), 1);
    }

    /** "members of a kind and of those above it none twice". */
    private static void membersNoneTwice() {
        Desk.dueFault("kind k { a : int; a : int; }", 3, 18);
        Desk.dueWell("kind k { a : int; b : int; }");
        Desk.dueFault("kind k { a : int; } kind l of k { a : int; }", 3, 34);
        Desk.dueWell("kind k { a : int; } kind l of k { b : int; }");
        Desk.dueWell("kind k { } kind l of k { a : int; } kind m of k { a : int; }");
        Desk.dueWell("kind k { } kind l of k { a : int; } kind m { a : int; }");
        StringBuilder line = new StringBuilder("kind k0{a:int;}");
        for (int i = 1; i < 15; i++) {
            line.append("kind k").append(i).append(" of k").append(i - 1).append("{}");
        }
        Desk.dueWell(line + "kind k of k14{b:int;}");
        Desk.dueFault(line + "kind k of k14{a:int;}", 3, line.length() + 14);
        Desk.dueWell("group g; rule r = v; kind k { g : int; r : int; k : k; all : int; need : int; v : int; }");
    }

    /** "In starts there is no v, a, b." */
    private static void noLettersInStarts() {
        for (String letter : new String[] {"v", "a", "b"}) {
            Desk.dueFault("rule r starts " + letter + " = v;", 4, 14);
            Desk.dueFault("rule r starts 1 " + letter + " + = v;", 4, 16);
            Desk.dueWell("rule r starts 1 = " + letter + ";");
            Desk.dueWell("rule " + letter + " = " + letter + ";");
        }
        Desk.dueFault("rule r starts c = v;", 2, 14);
        Desk.dueFault("rule r = c;", 2, 9);
    }

    /** "a pile has 16 at most". */
    private static void pile() {
        Desk.dueWell("rule r = " + "v ".repeat(16) + "+".repeat(15) + ";");
        Desk.dueFault("rule r = " + "v ".repeat(17) + "+".repeat(16) + ";", 4, 41);
        Desk.dueWell("rule r = " + "v ".repeat(16) + "+ v " + "+".repeat(15) + ";");
        Desk.dueFault("rule r = " + "v ".repeat(16) + "~ v " + "+".repeat(16) + ";", 4, 43);
        Desk.dueWell("rule r starts " + "1 ".repeat(16) + "+".repeat(15) + " = v;");
        Desk.dueFault("rule r starts " + "1 ".repeat(17) + "+".repeat(16) + " = v;", 4, 46);
        for (char letter : "ab7".toCharArray()) {
            Desk.dueFault("rule r = " + "v ".repeat(16) + letter + "+".repeat(16) + ";", 4, 41);
        }
    }

    /** "Behind the last one there is just one". */
    private static void justOne() {
        Desk.dueWell("rule r = v;");
        Desk.dueFault("rule r = v v;", 4, 12);
        Desk.dueFault("rule r = v v v +;", 4, 16);
        Desk.dueWell("rule r starts 1 = v;");
        Desk.dueFault("rule r starts 1 1 = v;", 4, 18);
        for (String sign : new String[] {"+", "-", "*", "/", "%", "<", ">", "==", "&", "|"}) {
            Desk.dueWell("rule r = v v " + sign + ";");
            Desk.dueFault("rule r = v " + sign + ";", 4, 11);
            Desk.dueFault("rule r = " + sign + ";", 4, 9);
            Desk.dueWell("rule r starts 1 1 " + sign + " = v;");
            Desk.dueFault("rule r starts 1 " + sign + " = v;", 4, 16);
            Desk.dueFault("rule r starts " + sign + " = v;", 4, 14);
        }
        Desk.dueWell("rule r = v ~;");
        Desk.dueFault("rule r = ~;", 4, 9);
        // The first step that can't be, though steps behind it can't be, too.
        Desk.dueFault("rule r = v + + ~ +;", 4, 11);
    }

    /** "starts may have no step, = has one at least". */
    private static void stepsOfStarts() {
        Desk.dueWell("rule r starts = v;");
        Desk.dueWell("rule r starts=v;");
        Desk.dueFault("rule r starts = ;", 4, 16);
        Desk.dueFault("rule r = ;", 4, 9);
        Desk.dueFault("rule r starts v;", 4, 14);
        Desk.dueFault("rule r starts ;", 2, 14);
        Desk.dueFault("rule r starts 1;", 2, 15);
    }

    /** "in starts an = with no = behind it (blanks may stand between) ends them". */
    private static void equalsInStarts() {
        Desk.dueWell("rule r starts 1 1 == = v;");
        Desk.dueWell("rule r starts 1 1 = = = v;");
        Desk.dueWell("rule r starts 1 1===v;");
        Desk.dueWell("rule r starts 1 1 = \n = \n = v;");
        Desk.dueFault("rule r starts == v;", 4, 14);
        Desk.dueFault("rule r starts = = v;", 4, 14);
        Desk.dueFault("rule r starts = \n = v;", 4, 14);
        Desk.dueFault("rule r starts 1 == v;", 4, 16);
        Desk.dueFault("rule r starts 1 1 == v;", 4, 21);
        Desk.dueFault("rule r starts 1 1 ==", 2, 20);
        Desk.dueFault("rule r starts 1 =", 2, 17);
        Desk.dueFault("rule r starts 1 = $", 1, 18);
        Desk.dueFault("rule r starts 1 1 == == = v;", 4, 21);
    }

    /** "40 steps of starts and of the rule each"; == is one of them. */
    private static void stepsAtMost() {
        Desk.dueWell("rule r = v" + "~".repeat(39) + ";");
        Desk.dueFault("rule r = v" + "~".repeat(40) + ";", 2, 49);
        Desk.dueWell("rule r starts 1" + "~".repeat(39) + "=v" + "~".repeat(39) + ";");
        Desk.dueFault("rule r starts 1" + "~".repeat(40) + "=v;", 2, 54);
        Desk.dueWell("rule r = v" + " v ==".repeat(19) + "~;");
        Desk.dueFault("rule r = v" + " v ==".repeat(19) + "~~;", 2, 106);
        Desk.dueWell("rule r starts 1" + " 1 = =".repeat(19) + "~=v;");
        Desk.dueFault("rule r starts 1" + " 1 = =".repeat(19) + "~~=v;", 2, 130);
        Desk.dueFault("rule r = v" + "~".repeat(39) + " 1;", 2, 50);
        Desk.dueFault("rule r = v" + "~".repeat(39) + " ==;", 2, 50);
        // A single = there is too many already, whatever stands behind it.
        Desk.dueFault("rule r = v" + "~".repeat(39) + " = ;", 2, 50);
        Desk.dueFault("rule r starts 1" + "~".repeat(39) + "== = v;", 2, 54);
        Desk.dueFault("rule r starts 1" + "~".repeat(39) + "1 = v;", 2, 54);
    }

    /** "arg = NUMBER or NAME, 4 at most". */
    private static void argsAtMost() {
        Desk.dueWell("mark m = go(1);");
        Desk.dueWell("mark m = go(1,2,3,x);");
        Desk.dueFault("mark m = go(1,2,3,4,5);", 2, 20);
        Desk.dueFault("mark m = go(1,2,3,4,x);", 2, 20);
        Desk.dueFault("mark m = go(1,2,3,4,);", 2, 20);
        Desk.dueFault("mark m = go(1,2,3,4;", 2, 19);
        Desk.dueFault("mark m = go();", 2, 12);
        Desk.dueFault("mark m = go(", 2, 12);
        Desk.dueFault("kind k { x : int = go(1,2,3,4,5); }", 2, 30);
        Desk.dueFault("kind k { * = go(1,2,3,4,5); }", 2, 24);
    }

    /** "8 uses a member, mark, or of all * of a kind". */
    private static void usesAtMost() {
        Desk.dueWell("mark m = go" + ",go".repeat(7) + ";");
        Desk.dueFault("mark m = go" + ",go".repeat(8) + ";", 2, 33);
        Desk.dueWell("kind k{a:int=go" + ",go".repeat(7) + ";b:int=go" + ",go".repeat(7) + ";}");
        Desk.dueFault("kind k{a:int=go" + ",go".repeat(8) + ";}", 2, 37);
        Desk.dueWell("kind k{*=go" + ",go".repeat(7) + ";}");
        Desk.dueFault("kind k{*=go" + ",go".repeat(8) + ";}", 2, 33);
        Desk.dueWell("kind k{*=go,go,go,go;a:int;*=go,go,go;*=go;}");
        Desk.dueFault("kind k{*=go,go,go,go;a:int;*=go,go,go;*=go,go;}", 2, 43);
        Desk.dueFault("kind k{*=go,go,go,go;a:int;*=go,go,go;*=go;*=go;}", 2, 45);
        Desk.dueWell("kind k{*=go" + ",go".repeat(7) + ";}kind l of k{*=go" + ",go".repeat(7) + ";}");
        Desk.dueFault("mark m = ;", 2, 9);
        Desk.dueFault("kind k { a : int = ; }", 2, 19);
        Desk.dueFault("kind k { * = ; }", 2, 13);
    }

    /** "12 members a kind (with those above)". */
    private static void membersAtMost() {
        Desk.dueWell("kind k { }");
        Desk.dueWell("kind k{" + Desk.numbered(12, "m#:int;") + "}");
        Desk.dueFault("kind k{" + Desk.numbered(13, "m#:int;") + "}", 2, 93);
        String above = "kind k{" + Desk.numbered(11, "m#:int;") + "}";
        Desk.dueWell(above + "kind l of k{x:int;}");
        Desk.dueFault(above + "kind l of k{x:int;y:int;}", 2, above.length() + 18);
        Desk.dueWell(above + "kind l of k{x:int;*=go;}kind m of l{*=go;}");
        Desk.dueFault(above + "kind l of k{x:int;}kind m of l{y:int;}", 2, above.length() + 31);
        Desk.dueWell(above + "kind l{" + Desk.numbered(12, "m#:int;") + "}");
    }

    /** "At most: 8 groups (with all), 6 chains, .. 16 rules, 16 marks, 16 kinds". */
    private static void partsAtMost() {
        String[] parts = {"group g#;", "chain c#:all;", "rule r#=v;", "mark m#=go;", "kind k#{}"};
        int[] most = {7, 6, 16, 16, 16};
        StringBuilder all = new StringBuilder();
        for (int i = 0; i < 5; i++) {
            String full = Desk.numbered(most[i], parts[i]);
            Desk.dueWell(full);
            Desk.dueFault(full + parts[i].replace("#", "x"), 2, full.length());
            // Too many already at the word.
            Desk.dueFault(full + parts[i].substring(0, 5), 2, full.length());
            all.append(full);
        }
        Desk.dueWell(all.toString());
    }

    /** "(the end: the text's length)". */
    private static void endOfTheText() {
        String[] ends = {"group", "group g", "group g :", "group g : all", "group g : all,", "chain", "chain c", "chain c :",
            "chain c : all", "rule", "rule r", "rule r starts", "rule r starts 1", "rule r =", "rule r = v", "mark", "mark m",
            "mark m =", "mark m = go", "mark m = go(", "mark m = go(1", "mark m = go(1,", "mark m = go !", "mark m = go @",
            "mark m = go #", "mark m = go \"x\"", "mark m = go,", "kind", "kind k", "kind k of", "kind k {", "kind k { a",
            "kind k { a :", "kind k { a : int", "kind k { a : list", "kind k { a : int =", "kind k { a : int = go",
            "kind k { a : int;", "kind k { *", "kind k { * =", "kind k { * = go", "kind k { * = go;"};
        for (String end : ends) {
            Desk.dueFault(end, 2, end.length());
            Desk.dueFault(end + " \n ", 2, end.length() + 3);
            Desk.dueFault(end + " $", 1, end.length() + 1);
        }
    }

    /** "2 one that can't stand there": what must stand behind a sign or a word. */
    private static void notThere() {
        Desk.dueFault("mark m = go @;", 2, 13);
        Desk.dueFault("mark m = go @, go;", 2, 13);
        Desk.dueFault("mark m = go @ #1;", 2, 14);
        Desk.dueFault("mark m = go #;", 2, 13);
        Desk.dueFault("mark m = go #, go;", 2, 13);
        Desk.dueFault("mark m = go # \"x\";", 2, 14);
        Desk.dueFault("mark m = go(1; mark n = go;", 2, 13);
        Desk.dueFault("mark m = go(1, go;", 2, 17);
        Desk.dueFault("mark m = go 1;", 2, 12);
        Desk.dueFault("mark m = go ) ;", 2, 12);
        Desk.dueFault("mark m = , go;", 2, 9);
        Desk.dueFault("mark m = go go;", 2, 12);
        Desk.dueFault("mark m = go \"x\" \"y\";", 2, 16);
        Desk.dueFault("mark m = go ! !;", 2, 14);
        Desk.dueFault("mark m = go @ all ?;", 2, 18);
        Desk.dueFault("mark m : go;", 2, 7);
        Desk.dueFault("group ; group g;", 2, 6);
        Desk.dueFault("group g : all : all;", 2, 14);
        Desk.dueFault("group g = all;", 2, 8);
        Desk.dueFault("chain c = all;", 2, 8);
        Desk.dueFault("kind k kind k { }", 2, 7);
        Desk.dueFault("kind k of { }", 2, 10);
        Desk.dueFault("kind k of k of k { }", 2, 12);
        Desk.dueFault("kind k ( )", 2, 7);
        Desk.dueFault("kind k { ; }", 2, 9);
        Desk.dueFault("kind k { a : int; } ;", 2, 20);
        Desk.dueFault("kind k { a = go; }", 2, 11);
        Desk.dueFault("kind k { a : int = go }", 2, 22);
        Desk.dueFault("kind k { * = go }", 2, 16);
        Desk.dueFault("kind k { a : list list k; }", 2, 18);
        Desk.dueFault("rule r starts starts = v;", 2, 14);
        Desk.dueFault("rule r : v;", 2, 7);
        Desk.dueFault("rule r v;", 2, 7);
        Desk.dueFault("rule r = v, v;", 2, 10);
        Desk.dueFault("rule = v;", 2, 5);
    }

    /** "FAULTS of a TEXT, the first by its place". */
    private static void firstByItsPlace() {
        Desk.dueFault("group g; group g; $", 3, 15);
        Desk.dueFault("; $", 2, 0);
        Desk.dueFault("$ ;", 1, 0);
        Desk.dueFault("rule r = +; group all;", 4, 9);
        Desk.dueFault("group all; rule r = +;", 3, 6);
        Desk.dueFault("rule r = + $", 4, 9);
        Desk.dueFault("rule r = v $ +", 1, 11);
        Desk.dueFault("rule r = v v $", 1, 13);
    }

    /** "at one place the least". */
    private static void leastAtOnePlace() {
        String twelve = "kind k{" + Desk.numbered(12, "m#:int;");
        // The 13th member has a NAME that is told already.
        Desk.dueFault(twelve + "m0:int;}", 2, twelve.length());
        Desk.dueFault(twelve + "$", 1, twelve.length());
        // The 41st step can't be.
        Desk.dueFault("rule r = v" + "~".repeat(39) + "+;", 2, 49);
        Desk.dueFault("rule r = v" + "~".repeat(39) + "$;", 1, 49);
        Desk.dueFault("rule r starts 1" + "~".repeat(39) + "v=v;", 2, 54);
        Desk.dueFault("mark m = go(1,2,3,4,$", 1, 20);
        Desk.dueFault("mark m = go" + ",go".repeat(7) + ",$", 1, 33);
    }

    /** "If there is none: 5 .. the first". */
    private static void fiveOnlyWithoutOthers() {
        Desk.dueFault("chain c : x; kind k { a : y = z @ w; }", 5, 10);
        Desk.dueFault("kind k { a : y = z @ w; } chain c : x;", 5, 13);
        Desk.dueFault("kind k { a : int = z @ w; } chain c : x;", 5, 19);
        Desk.dueFault("kind k { a : int = go @ w; } chain c : x;", 5, 24);
        Desk.dueFault("chain c : x; $", 1, 13);
        Desk.dueFault("chain c : x; kind", 2, 17);
        Desk.dueFault("chain c : x; group all;", 3, 19);
        Desk.dueFault("chain c : x; rule r = ~;", 4, 22);
        // The kind above is not told ahead: its members are none of this one's.
        Desk.dueFault("kind l of k { a : int; } kind k { a : int; }", 5, 10);
    }
}
