import java.util.ArrayList;
import java.util.List;
import java.util.function.Function;
import java.util.function.Supplier;

/**
 * "A call that answers false or NONE, or throws, changes nothing." Each such call is made on one of two objects that are made
 * alike; then both are led on, and must answer the same, so that also what cannot be seen at once is seen to be as it was.
 */
public final class RefusalTest {
    private static final int FALSE = 0;
    private static final int NONE = -1;
    private static final int[] FAR = {Integer.MIN_VALUE, -1000, 1000, Integer.MAX_VALUE};

    /** A call, what it is called, and the answer that is due. */
    private record Refused(String called, Function<Probe, Integer> call, int due) {
    }

    public static void main(String[] args) {
        for (Supplier<Probe> made : states()) {
            for (Refused refused : refusedBy(made)) {
                changesNothing(made, refused);
            }
        }
        Probe.end();
    }

    private static Probe used() {
        Probe probe = Probe.of("2 d.e v=spf1 a:h.e mx:m.e -all", "0 h.e 1.2.3.4", "1 m.e n.e", "2 _dmarc.d.e v=DMARC1;p=reject;sp=none", "3 b.e", "4 f");
        probe.check("9.9.9.9", "d.e");
        return probe;
    }

    private static Probe passed() {
        Probe probe = used();
        probe.check("1.2.3.4", "d.e");
        return probe;
    }

    private static Probe full() {
        Probe probe = passed();
        for (int k = 6; k < 16; k++) {
            probe.row(0, "h.e 1.2.3." + k);
        }
        return probe;
    }

    private static Probe judged() {
        Probe probe = passed();
        probe.policy(0, "x.d.e");
        return probe;
    }

    private static Probe failed() {
        Probe probe = used();
        probe.check("1.2.3.4", "b.e");
        return probe;
    }

    private static List<Supplier<Probe>> states() {
        List<Supplier<Probe>> bare = List.of(Probe::new, RefusalTest::used, RefusalTest::passed, RefusalTest::full, RefusalTest::judged,
            RefusalTest::failed);
        String[] texts = {"", "x", "d.e", "x.d.e", "d..e", "h.e 9.9.9.9", "d.e x", "x".repeat(93), "x".repeat(100)};
        List<Supplier<Probe>> states = new ArrayList<>();
        for (Supplier<Probe> state : bare) {
            for (String text : texts) {
                states.add(() -> state.get().text(text));
            }
        }
        return states;
    }

    private static List<Refused> refusedBy(Supplier<Probe> made) {
        List<Refused> all = new ArrayList<>();
        refusedTypes(all, made.get().guard().length());
        refusedNumbers(all, made.get());
        refusedRows(all, made);
        refusedNames(all, made);
        return all;
    }

    private static void refusedTypes(List<Refused> all, int length) {
        long[] wrong = {1, 31, 127, 128, 255, 0x612e620000000001L, 0x2e7a7f0000000000L, 0x8000000000000000L, -1};
        for (long part : wrong) {
            all.add(new Refused("type(" + Long.toHexString(part) + ")", probe -> probe.guard().type(part) ? 1 : 0, FALSE));
        }
        if (length > 92) {
            all.add(new Refused("type of eight", probe -> probe.guard().type(0x6161616161616161L) ? 1 : 0, FALSE));
        }
        if (length == 100) {
            all.add(new Refused("type of one", probe -> probe.guard().type('x') ? 1 : 0, FALSE));
        }
    }

    private static void refusedNumbers(List<Refused> all, Probe probe) {
        int rows = probe.guard().rows(-1);
        int asked = Math.max(0, probe.guard().asked(-1));
        List<Integer> far = new ArrayList<>(List.of(-2));
        for (int number : FAR) {
            far.add(number);
        }
        for (int number : far) {
            all.add(new Refused("drop(" + number + ")", one -> one.guard().drop(number) ? 1 : 0, FALSE));
            all.add(new Refused("rows(" + number + ")", one -> one.guard().rows(number), NONE));
            all.add(new Refused("asked(" + number + ")", one -> one.guard().asked(number), NONE));
            all.add(new Refused("latest(" + number + ")", one -> one.guard().latest(number), NONE));
        }
        all.add(new Refused("drop(-1)", one -> one.guard().drop(-1) ? 1 : 0, FALSE));
        all.add(new Refused("drop(" + rows + ")", one -> one.guard().drop(rows) ? 1 : 0, FALSE));
        all.add(new Refused("rows(" + rows + ")", one -> one.guard().rows(rows), NONE));
        all.add(new Refused("asked(" + asked + ")", one -> one.guard().asked(asked), NONE));
        all.add(new Refused("latest(-1)", one -> one.guard().latest(-1), NONE));
        all.add(new Refused("latest(5)", one -> one.guard().latest(5), NONE));
        for (int w = 0; w <= 4; w++) {
            int about = w;
            if (probe.guard().latest(w) == NONE) {
                all.add(new Refused("latest(" + w + ")", one -> one.guard().latest(about), NONE));
            }
        }
    }

    /** Which of the rows are refused is told by TableEdgeTest: here the answers of the first object are the ones that are due. */
    private static void refusedRows(List<Refused> all, Supplier<Probe> made) {
        int[] types = {Integer.MIN_VALUE, -1, 0, 1, 2, 3, 4, 5, Integer.MAX_VALUE};
        for (int type : types) {
            Probe probe = made.get();
            addThrowing(all, "row(" + type + ")", one -> Probe.caught(() -> one.guard().row(type)), probe);
        }
    }

    private static void refusedNames(List<Refused> all, Supplier<Probe> made) {
        addThrowing(all, "check", one -> Probe.caught(() -> one.guard().check(7)), made.get());
        int[] chances = {Integer.MIN_VALUE, -1, 0, 99, 100, Integer.MAX_VALUE};
        for (int chance : chances) {
            addThrowing(all, "policy(" + chance + ")", one -> Probe.caught(() -> one.guard().policy(chance)), made.get());
        }
    }

    private static void addThrowing(List<Refused> all, String called, Function<Probe, Integer> call, Probe probe) {
        int answer = call.apply(probe);
        if (answer == Probe.ILLEGAL_ARGUMENT || answer == Probe.ILLEGAL_STATE) {
            all.add(new Refused(called, call, answer));
        }
    }

    private static void changesNothing(Supplier<Probe> made, Refused refused) {
        List<Function<Probe, String>> ways = List.of(Probe::view, RefusalTest::textTaken, RefusalTest::textJudged, RefusalTest::textAsRow,
            RefusalTest::checkJudged, RefusalTest::tableChecked, RefusalTest::tableDropped);
        for (Function<Probe, String> way : ways) {
            String without = way.apply(made.get());
            Probe once = made.get();
            Probe.due(refused.called, refused.call.apply(once), refused.due);
            Probe.due("what comes after " + refused.called, way.apply(once), without);
            Probe twice = made.get();
            refused.call.apply(twice);
            Probe.due(refused.called + " again", refused.call.apply(twice), refused.due);
            Probe.due("what comes after two of " + refused.called, way.apply(twice), without);
        }
    }

    private static String textTaken(Probe probe) {
        probe.more(".q");
        return Probe.caught(() -> probe.guard().check(0x01020304)) + " " + probe.view();
    }

    private static String textJudged(Probe probe) {
        return Probe.caught(() -> probe.guard().policy(0)) + " " + probe.view();
    }

    private static String textAsRow(Probe probe) {
        StringBuilder all = new StringBuilder();
        for (int type = 4; type >= 0; type--) {
            int kind = type;
            all.append(Probe.caught(() -> probe.guard().row(kind))).append(' ');
        }
        all.append(probe.view()).append(probe.check("9.9.9.9", "d.e"));
        return all.append(probe.view()).toString();
    }

    private static String checkJudged(Probe probe) {
        return probe.policy(0, "d.e") + " " + probe.policy(99, "x.d.e") + " " + probe.policy(5, "y.f") + " " + probe.view();
    }

    private static String tableChecked(Probe probe) {
        StringBuilder all = new StringBuilder();
        for (String name : new String[] {"d.e", "b.e", "h.e", "e"}) {
            all.append(probe.check("1.2.3.4", name)).append(' ').append(probe.latest()).append(' ').append(probe.asked()).append(' ');
        }
        return all.append(probe.row(3, "d.e")).append(probe.view()).toString();
    }

    private static String tableDropped(Probe probe) {
        StringBuilder all = new StringBuilder(probe.view());
        for (int k = 0; k < 17; k++) {
            all.append(probe.check("1.2.3." + (k % 2 == 0 ? 4 : 15), "d.e")).append(probe.policy(k, "x.d.e"));
            all.append(probe.guard().rows(0)).append(probe.guard().drop(k % 2));
        }
        return all.toString();
    }
}
