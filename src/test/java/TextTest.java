/** Promises 1 to 4: a new object, type, wipe, length. */
public final class TextTest {
    public static void main(String[] args) {
        newObject();
        typeAddsBytes();
        typeRefusesBytes();
        typeRefusesMoreThanTheLimit();
        wipeAndLength();
        Probe.end();
    }

    private static void newObject() {
        MailGuard guard = new MailGuard();
        Probe.due("new: length()", guard.length(), 0);
        Probe.due("new: rows(-1)", guard.rows(-1), 0);
        Probe.due("new: rows(0)", guard.rows(0), -1);
        for (int w = -1; w <= 5; w++) {
            Probe.due("new: latest(" + w + ")", guard.latest(w), -1);
        }
        Probe.due("new: asked(-1)", guard.asked(-1), -1);
        Probe.due("new: asked(0)", guard.asked(0), -1);
        Probe.due("new: check", new Probe().check("1.2.3.4", ""), Probe.ILLEGAL_ARGUMENT);
        Probe.due("new: policy", new Probe().policy(0, "a.b"), Probe.ILLEGAL_STATE);
    }

    private static void typeAddsBytes() {
        Probe probe = new Probe();
        Probe.due("type of eight", probe.guard().type(Probe.part("a.b.c.de")), true);
        Probe.due("length of eight", probe.guard().length(), 8);
        Probe.due("type(0)", probe.guard().type(0), true);
        Probe.due("length after type(0)", probe.guard().length(), 8);
        // 0 bytes ahead of, between and behind the others.
        Probe.due("type with zeros", probe.guard().type(0x002e007800006600L), true);
        Probe.due("length with zeros", probe.guard().length(), 11);
        Probe.due("check", Probe.caught(() -> probe.guard().check(0)), 0);
        Probe.due("the order of the characters", probe.asked(), "a.b.c.de.xf");
        Probe.due("type of the edges 32 and 126", probe.guard().type(0x207eL), true);
        Probe.due("length of the edges", probe.guard().length(), 2);
    }

    private static void typeRefusesBytes() {
        long[] wrong = {0x1f, 0x7f, 0x80, 0xff, 0x61621f6364656667L, 0x8000000000000000L, -1,
            0x7f61616161616161L, 0x616161616161610aL};
        for (long part : wrong) {
            Probe probe = new Probe().text("abc");
            Probe.due("type(" + part + ")", probe.guard().type(part), false);
            Probe.due("length after type(" + part + ")", probe.guard().length(), 3);
        }
    }

    private static void typeRefusesMoreThanTheLimit() {
        Probe probe = new Probe().text("x".repeat(96));
        Probe.due("length", probe.guard().length(), 96);
        Probe.due("type of five", probe.guard().type(Probe.part("abcde")), false);
        Probe.due("length after five", probe.guard().length(), 96);
        Probe.due("type of four", probe.guard().type(Probe.part("abcd")), true);
        Probe.due("length after four", probe.guard().length(), 100);
        Probe.due("type of one", probe.guard().type(Probe.part("a")), false);
        Probe.due("type of none", probe.guard().type(0), true);
        Probe.due("length at the end", probe.guard().length(), 100);
    }

    private static void wipeAndLength() {
        Probe probe = new Probe();
        probe.guard().wipe();
        Probe.due("length of nothing", probe.guard().length(), 0);
        probe.row(3, "a.b");
        probe.check("1.2.3.4", "a.b");
        probe.text("abcdefghij");
        Probe.due("length", probe.guard().length(), 10);
        probe.guard().wipe();
        Probe.due("length after wipe", probe.guard().length(), 0);
        Probe.due("what wipe leaves", probe.view(), "0 | 5 0 0 -1 1 | a.b | 1 3 -1");
        Probe.due("type after wipe", probe.guard().type(Probe.part("z.z")), true);
        Probe.due("check after wipe", Probe.caught(() -> probe.guard().check(0)), 0);
        Probe.due("the name after wipe", probe.asked(), "z.z");
    }
}
