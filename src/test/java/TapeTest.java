/** Promises 1 to 5: a new object, feed, end, take, fault. */
public final class TapeTest {
    private static final int NONE = CustomsDesk.NONE;

    public static void main(String[] args) {
        newObject();
        feedAndEnd();
        fullTape();
        takeEmptiesTheTape();
        faultsChangeNothing();
        takenTextEndsWhatWas();
        Desk.finish();
    }

    private static void newObject() {
        CustomsDesk desk = new CustomsDesk();
        Desk.due("fault(0)", desk.fault(0), 0);
        Desk.due("fault(1)", desk.fault(1), NONE);
        Desk.due("fault(2)", desk.fault(2), NONE);
        Desk.due("fault(-1)", desk.fault(-1), NONE);
        Desk.due("named(all)", desk.named(Desk.name("all")), 100);
        Desk.due("kind", desk.kind(0, 0), NONE);
        Desk.due("paper", desk.paper(0), NONE);
        Desk.due("value", desk.value(0, 0, 0), NONE);
        Desk.due("check", desk.check(0, 0), NONE);
        Desk.due("groups", desk.groups(), NONE);
        Desk.due("correct", desk.correct(), NONE);
        Desk.due("cut", desk.cut(0), NONE);
        Desk.due("misuse", desk.misuse(0, 0), NONE);
        Desk.due("failed", desk.failed(0, 0), NONE);
        Desk.due("asked", desk.asked(0, 0), NONE);
        Desk.due("end(1)", desk.end(1), NONE);
        Desk.due("end(0)", desk.end(0), 0);
    }

    private static void feedAndEnd() {
        CustomsDesk desk = new CustomsDesk();
        Desk.due("feed", desk.feed(1, 2, 3, 4, 5), 20);
        Desk.due("feed", desk.feed(1, 2, 3, 4, 5), 40);
        Desk.due("end(41)", desk.end(41), NONE);
        Desk.due("end(-1)", desk.end(-1), NONE);
        Desk.due("end(min)", desk.end(Integer.MIN_VALUE), NONE);
        Desk.due("end(40)", desk.end(40), 40);
        Desk.due("end(7)", desk.end(7), 7);
        Desk.due("end(8)", desk.end(8), NONE);
        Desk.due("feed", desk.feed(-1, -1, -1, -1, -1), 27);
        desk.end(0);
        // The highest byte comes first: "kind" " k {" "}   ".
        desk.feed(0x6b696e64, 0x206b207b, 0x7d202020, 0x20202020, 0x20202020);
        Desk.due("take", desk.take(), 1);
        Desk.due("named(k)", desk.named('k'), 500);
    }

    private static void fullTape() {
        CustomsDesk desk = new CustomsDesk();
        for (int i = 1; i <= 149; i++) {
            Desk.due("feed", desk.feed(0x20202020, 0x0a0a0a0a, 0x20202020, 0x20202020, 0x20202020), 20 * i);
        }
        desk.end(2979);
        Desk.due("feed to 2999", desk.feed(0x20202020, 0x20202020, 0x20202020, 0x20202020, 0x20202020), 2999);
        Desk.due("feed over 3000", desk.feed(1, 1, 1, 1, 1), NONE);
        Desk.due("end(3000)", desk.end(3000), NONE);
        desk.end(2981);
        Desk.due("feed to 3001", desk.feed(1, 1, 1, 1, 1), NONE);
        Desk.due("end(2980)", desk.end(2980), 2980);
        Desk.due("feed to 3000", desk.feed(0x20202020, 0x20202020, 0x20202020, 0x20202020, 0x2020206b), 3000);
        Desk.due("feed over 3000", desk.feed(1, 1, 1, 1, 1), NONE);
        Desk.due("take", desk.take(), NONE);
        Desk.due("fault", desk.fault(0), 2);
        Desk.due("place", desk.fault(1), 2999);
        for (int i = 1; i <= 150; i++) {
            desk.feed(0x7e7e7e7e, 0x7e7e7e7e, 0x7e7e7e7e, 0x7e7e7e7e, 0x7e7e7e7e);
        }
        Desk.due("take of 3000 signs", desk.take(), NONE);
        Desk.due("place", desk.fault(1), 0);
    }

    private static void takeEmptiesTheTape() {
        Desk made = new Desk();
        Desk.due("take", made.take("kind a { } kind b { }"), 2);
        Desk.due("end(1)", made.desk.end(1), NONE);
        Desk.due("faulty take", made.take("kind"), NONE);
        Desk.due("end(1)", made.desk.end(1), NONE);
        Desk.due("fault", made.desk.fault(0), 2);
        Desk.due("kinds stay", made.desk.named('b'), 501);
        Desk.due("empty take", made.desk.take(), 0);
        Desk.due("fault", made.desk.fault(0), 0);
        Desk.due("kinds are gone", made.desk.named('b'), NONE);
    }

    private static void faultsChangeNothing() {
        Desk made = Desk.of("chain c : all; rule r = v ; kind a { m : int = least(5), r, size(1, 2); }");
        CustomsDesk desk = made.desk;
        desk.paper(0);
        desk.setInt(0, 0, 2, true);
        Desk.due("check", desk.check(0, 0), 1);
        Desk.due("take", made.take("kind x { } kind x { }"), NONE);
        Desk.due("fault", desk.fault(0), 3);
        Desk.due("place", desk.fault(1), 16);
        Desk.due("value", desk.value(0, 0, 1), 2);
        Desk.due("groups", desk.groups(), 1);
        made.dueFound(0, 3, 0, 0, 0, 0, 0);
        made.dueMisuse(0, 0, 0, 2, 5);
        Desk.due("asked", desk.asked(0, 0), 1);
        Desk.due("named", desk.named('x'), NONE);
        Desk.due("correct", desk.correct(), 1);
    }

    private static void takenTextEndsWhatWas() {
        String text = "chain c : all; rule r starts 0 = v ; kind a { m : int = least(5), r, size(1, 2); }";
        Desk made = Desk.of(text);
        CustomsDesk desk = made.desk;
        desk.paper(0);
        desk.setInt(0, 0, 2, true);
        desk.check(0, 0);
        Desk.due("failed", desk.failed(0, 1), 2);
        made.take(text);
        Desk.due("papers", desk.value(0, 0, 0), NONE);
        Desk.due("founds", desk.found(0, 0), NONE);
        Desk.due("groups", desk.groups(), NONE);
        Desk.due("correct", desk.correct(), NONE);
        Desk.due("failed", desk.failed(0, 0), NONE);
        Desk.due("asked", desk.asked(0, 0), 0);
        Desk.due("state", desk.asked(0, 1), 0);
        Desk.due("misuses are told anew", desk.misuse(0, 2), 2);
        Desk.due("and once", desk.misuse(1, 2), NONE);
        Desk.due("paper", desk.paper(0), 0);
    }
}
