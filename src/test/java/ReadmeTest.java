/** The example of README.md, call by call. */
public final class ReadmeTest extends Sentences {

    public static void main(String[] args) {
        CHECKS.sentence("README.md", "How to use it");
        MemberInspection x = new MemberInspection();
        CHECKS.due("make(5, true, 9)", x.make(5, true, 9), DONE);
        CHECKS.due("hold(0, 8)", x.hold(0, 8), DONE);
        CHECKS.due("handle 0 holds RESULT", x.look(RESULT, true), 0);
        dueField("a new ITEM with whole 9", x, 0, WHOLE, INT + 1, 9);
        CHECKS.due("put(1, 1, -3)", x.put(1, 1, -3), DONE);
        dueIn("handle 1 holds a BYTE box", x, 1, BYTE + 1, -3);
        CHECKS.due("set(0, 0, 1)", x.set(0, 0, 1), DONE);
        CHECKS.due("getAs(0, 0, 7)", x.getAs(0, 0, 7), DONE);
        CHECKS.due("last()", x.last(), -24);
        CHECKS.due("set(0, 6, 1)", x.set(0, 6, 1), FINAL);
        CHECKS.end();
    }
}
