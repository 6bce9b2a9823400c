/** No call throws, whatever its arguments and the bytes on the tape are. */
public final class AnyCallTest {
    private static final int[] NUMBERS = {Integer.MIN_VALUE, -101, -2, -1, 0, 1, 2, 3, 7, 12, 19, 20, 40, 60, 80, 199, 200, 500,
        3000, Integer.MAX_VALUE};
    private static final String TEXT = "group g; chain c : all, g; rule r starts 1 = 4 v / a > ; mark m = r(1), least(2)? \"{v}{a}\";"
        + " kind k { i : int = m, oneof(1, 9); t : text = size(1, 2); p : k = go, need?; l : list k = go; * = below(i, j),"
        + " total(l, i, j); j : int = m @ g; } kind s of k { n : int = most(0); }";
    private static long state = 20261116;

    public static void main(String[] args) {
        anyArguments(false);
        anyArguments(true);
        anyTapes();
        Desk.finish();
    }

    private static Desk filled() {
        Desk made = Desk.of(TEXT);
        for (int i = 0; i < 4; i++) {
            made.desk.paper(i % 2);
            made.desk.setInt(i, 0, i, true);
            made.desk.item(0, 3, i);
            made.desk.link(i, 2, 0);
        }
        made.desk.check(0, 0);
        return made;
    }

    /** A new desk for each two numbers: what it answers behind its 512th call is free. */
    private static void anyArguments(boolean filled) {
        for (int a : NUMBERS) {
            for (int b : NUMBERS) {
                CustomsDesk desk = filled ? filled().desk : new CustomsDesk();
                one(desk, a);
                one(desk, b);
                two(desk, a, b);
                for (int c : NUMBERS) {
                    three(desk, a, b, c);
                }
                two(desk, b, a);
            }
        }
    }

    private static void one(CustomsDesk desk, int a) {
        desk.feed(a, a, a, a, a);
        desk.end(a);
        desk.fault(a);
        desk.named(a);
        desk.named((long) a << 32);
        desk.paper(a);
        desk.cut(a);
        desk.groups();
        desk.correct();
    }

    private static void two(CustomsDesk desk, int a, int b) {
        desk.kind(a, b);
        desk.member(a, b);
        desk.misuse(a, b);
        desk.check(a, b);
        desk.found(a, b);
        desk.way(a, b);
        desk.text(a, b);
        desk.failed(a, b);
        desk.asked(a, b);
    }

    private static void three(CustomsDesk desk, int a, int b, int c) {
        desk.setInt(a, b, c, (a + b + c) % 3 != 0);
        desk.setText(a, b, c, (a + b + c) % 3 != 0);
        desk.link(a, b, c);
        desk.item(a, b, c);
        desk.value(a, b, c);
        desk.wouldBe(a, b, c);
    }

    private static int next(int bound) {
        state = state * 6364136223846793005L + 1442695040888963407L;
        return (int) ((state >>> 33) % bound);
    }

    /** Texts with bytes taken away, put in and changed: each has a fault at a place within it, or none. */
    private static void anyTapes() {
        String bytes = TEXT + ";:,(){}=!?@#+-*/%<>&|~\"0123456789abv \n\t\u00ff\0";
        for (int n = 0; n < 3000; n++) {
            StringBuilder text = new StringBuilder(TEXT);
            for (int change = next(3); change >= 0; change--) {
                int at = next(text.length());
                if (next(2) == 0) {
                    text.delete(at, Math.min(text.length(), at + 1 + next(4)));
                } else {
                    int from = next(bytes.length());
                    text.insert(at, bytes, from, Math.min(bytes.length(), from + 1 + next(6)));
                }
            }
            Desk made = new Desk();
            int kinds = made.take(text.toString());
            int fault = made.desk.fault(0);
            int place = made.desk.fault(1);
            boolean well = kinds >= 0 && fault == 0 && place == CustomsDesk.NONE;
            boolean faulty = kinds == CustomsDesk.NONE && fault >= 1 && fault <= 5 && place >= 0 && place <= text.length();
            Desk.due("a fault or none: " + text, well || faulty, true);
            made.desk.paper(0);
            made.desk.setInt(0, 0, n, true);
            made.desk.check(0, 0);
        }
    }
}
