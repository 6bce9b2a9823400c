import java.nio.ByteBuffer;
import java.nio.charset.StandardCharsets;
import java.util.Arrays;

/** The example of README.md, call by call, so that what it says stays true. */
public final class ExampleTest {
    public static void main(String[] args) {
        String text = "chain c : all; kind crate { kg : int = most(50) \"{v} is over {a}\"; }";
        CustomsDesk desk = new CustomsDesk();
        ByteBuffer bytes = ByteBuffer.wrap(
            Arrays.copyOf(text.getBytes(StandardCharsets.US_ASCII), (text.length() + 19) / 20 * 20));
        while (bytes.hasRemaining()) {
            desk.feed(bytes.getInt(), bytes.getInt(), bytes.getInt(), bytes.getInt(), bytes.getInt());
        }
        Desk.due("end", desk.end(text.length()), text.length());
        Desk.due("take", desk.take(), 1);

        Desk.due("named crate", desk.named(0x6372617465L), 500);
        int paper = desk.paper(0);
        int member = desk.member(0, 0x6b67L);
        Desk.due("paper", paper, 0);
        Desk.due("member kg", member, 0);
        Desk.due("setInt", desk.setInt(paper, member, 70, true), true);

        Desk.due("check", desk.check(paper, 0), 1);
        Desk.due("rule", desk.found(0, 0), 4);
        Desk.due("severity", desk.found(0, 1), 0);
        Desk.due("bytes of the text", desk.found(0, 7), 13);
        Desk.due("first byte of the text", desk.text(0, 0), '7');
        new Desk(desk).dueText(0, "70 is over 50");
        Desk.due("proposal", desk.found(0, 9), 50);

        Desk.due("wouldBe(60)", desk.wouldBe(paper, member, 60), 1);
        Desk.due("wouldBe(50)", desk.wouldBe(paper, member, 50), 0);
        Desk.due("correct", desk.correct(), 1);
        Desk.due("value", desk.value(paper, member, 1), 50);
        Desk.due("check again", desk.check(paper, 0), 0);
        Desk.finish();
    }
}
