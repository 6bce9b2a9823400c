import java.nio.charset.StandardCharsets;

/** What the tests share: a desk that is fed by Strings, and the counting of wrong answers. */
final class Desk {
    final CustomsDesk desk;
    private static int wrong = 0;

    Desk() {
        this(new CustomsDesk());
    }

    Desk(CustomsDesk desk) {
        this.desk = desk;
    }

    /** A desk that has taken a text without a fault. */
    static Desk of(String text) {
        Desk made = new Desk();
        int kinds = made.take(text);
        due("the text is well: " + text, made.desk.fault(0), 0);
        due("fault place of: " + text, made.desk.fault(1), CustomsDesk.NONE);
        if (kinds < 0) {
            wrong++;
        }
        return made;
    }

    static void due(String what, long got, long want) {
        if (got != want) {
            wrong++;
            System.out.println(what + ": answered " + got + ", due is " + want);
        }
    }

    static void due(String what, boolean got, boolean want) {
        due(what, got ? 1 : 0, want ? 1 : 0);
    }

    /** Asks for a fault of a text at a place on a new desk; what stands behind the place changes nothing. */
    static void dueFault(String text, int code, int place) {
        askFault(text, code, place);
        if (code >= 1 && code <= 4 && place < text.length()) {
            askFault(text + "\n$", code, place);
            askFault(text + "\ngroup all; $", code, place);
        }
    }

    private static void askFault(String text, int code, int place) {
        Desk made = new Desk();
        int answer = made.take(text);
        due("take of: " + text, answer == CustomsDesk.NONE ? 1 : 0, code == 0 ? 0 : 1);
        due("fault of: " + text, made.desk.fault(0), code);
        due("place of the fault of: " + text, made.desk.fault(1), code == 0 ? CustomsDesk.NONE : place);
    }

    static void dueWell(String text) {
        dueFault(text, 0, 0);
    }

    /** Parts whose # is a number from 0 on. */
    static String numbered(int n, String part) {
        StringBuilder all = new StringBuilder();
        for (int i = 0; i < n; i++) {
            all.append(part.replace("#", "" + i));
        }
        return all.toString();
    }

    static long name(String letters) {
        long name = 0;
        for (byte b : letters.getBytes(StandardCharsets.ISO_8859_1)) {
            name = name << 8 | (b & 255);
        }
        return name;
    }

    void feed(String text) {
        byte[] bytes = text.getBytes(StandardCharsets.ISO_8859_1);
        int before = desk.feed(0, 0, 0, 0, 0) - 20;
        desk.end(before);
        for (int at = 0; at < bytes.length; at += 20) {
            int[] row = new int[5];
            for (int i = 0; i < 20; i++) {
                int b = at + i < bytes.length ? bytes[at + i] & 255 : 0;
                row[i / 4] = row[i / 4] << 8 | b;
            }
            desk.feed(row[0], row[1], row[2], row[3], row[4]);
        }
        desk.end(before + bytes.length);
    }

    int take(String text) {
        feed(text);
        return desk.take();
    }

    String text(int k) {
        StringBuilder text = new StringBuilder();
        for (int i = 0; i < desk.found(k, 7); i++) {
            text.append((char) desk.text(k, i));
        }
        due("byte behind the text", desk.text(k, Math.max(desk.found(k, 7), 0)), CustomsDesk.NONE);
        return text.toString();
    }

    void dueText(int k, String want) {
        String got = text(k);
        if (!got.equals(want)) {
            wrong++;
            System.out.println("text of found " + k + ": is '" + got + "', due is '" + want + "'");
        }
    }

    /** Asks for rule, severity, payload, paper, member and cause of a found. */
    void dueFound(int k, int... want) {
        for (int what = 0; what < want.length; what++) {
            due("found(" + k + ", " + what + ")", desk.found(k, what), want[what]);
        }
    }

    void dueMisuse(int k, int... want) {
        for (int what = 0; what < want.length; what++) {
            due("misuse(" + k + ", " + what + ")", desk.misuse(k, what), want[what]);
        }
    }

    static void finish() {
        System.out.println(wrong == 0 ? "all answers are as due" : wrong + " answers are not as due");
        if (wrong != 0) {
            System.exit(1);
        }
    }
}
