/** Long mixed runs of calls, the same in each session, compared with Model call by call. */
public final class ModelTest {
    private static final int RUNS = 8000;
    // With the parts that are typed and the glances at it, an object is not used for more calls than it is good for.
    private static final int STEPS = 20;
    private static final String[] NAMES = {"a.b", "a.b", "c.a.b", "b", "d.e", "x.d.e", "e.f.g", "1.2.a.b", "a", "b.a",
        "aaaaaaaaaaaaaaaa.bbbbbbbbbbbbbbbb.cccccccccc.a.b"};
    private static final String[] ADDRESSES = {"1.2.3.4", "1.2.3.5", "200.2.3.4", "0.0.0.0", "255.255.255.255", "1.2.200.1"};
    private static final String[] TARGETS = {"%{d}", "%{o}", "%{i}", "%{ir}.x", "%{d1}.%{o1}", "%{d2r}", "%{o2}", "x.%{d}", "%{d1r}.b", "%%", "%{d}%{d}%{d}",
        "a..b", "%{i1}.2.a.b", "%%{d}", "=", "a:b", "%{o9r}", "%{dr}"};
    private static final String[] WRONG = {"foo", "a:", "a/33", "mx/08", "%", "exists:%x", "include:a.b/8", "redirect=", "all:a", "-x=y", "ip4:1.2.3", "X",
        "exists:%{d0}", "exists:%{drr}", "ip4:1.2.3.4/", "x=%"};
    private static final String[] TAGS = {"p=none", "p=quarantine", "p=reject", "p=reject", "sp=none", "sp=reject", "sp=quarantine", "aspf=r", "aspf=s", "pct=0",
        "pct=50", "pct=100", "x=y", "", " ", "rua=a@b=c"};
    private static final String[] WRONG_TAGS = {"p=x", "sp=", "aspf=q", "pct=101", "pct=07", "p = none", "X=y", "x", "p=no ne"};

    private static long state = 20261115;

    // A run keeps to a few names, so that its rows meet each other.
    private static String[] names = NAMES;

    private static int below(int bound) {
        state = state * 6364136223846793005L + 1442695040888963407L;
        return (int) ((state >>> 33) % bound);
    }

    private static String one(String[] of) {
        return of[below(of.length)];
    }

    private static String target() {
        return below(3) == 0 ? one(TARGETS) : one(names);
    }

    private static String bits() {
        int[] some = {0, 1, 8, 9, 16, 24, 30, 31, 32};
        return below(2) == 0 ? "" : "/" + some[below(some.length)];
    }

    /** A few characters that mean something at some place, at any place. */
    private static String noise(String of) {
        StringBuilder text = new StringBuilder();
        for (int k = 1 + below(7); k > 0; k--) {
            text.append(of.charAt(below(of.length())));
        }
        return text.toString();
    }

    private static String noisyTerm() {
        String[] ahead = {"", "a:", "exists:", "a/", "mx:x/", "ip4:1.2.3.", "ip4:1.2.3.4/", "x=", "exists:%{", "x=%{d", "include:a.b%"};
        return one(ahead) + noise("a:/=%{}dior0123.+-~_%{}");
    }

    private static String term() {
        String sign = new String[] {"", "", "+", "-", "?", "~"}[below(6)];
        switch (below(12)) {
            case 0:
                return sign + "all";
            case 1:
            case 2:
                return sign + "include:" + target();
            case 3:
                return sign + "a" + bits();
            case 4:
                return sign + "a:" + target() + bits();
            case 5:
                return sign + "mx" + bits();
            case 6:
                return sign + "mx:" + target() + bits();
            case 7:
                return sign + "ip4:" + one(ADDRESSES) + bits();
            case 8:
            case 9:
                return sign + "exists:" + target();
            case 10:
                return below(2) == 0 ? "redirect=" + target() : "x=" + (below(2) == 0 ? "" : one(TARGETS));
            default:
                return below(4) == 0 ? (below(2) == 0 ? one(WRONG) : noisyTerm()) : sign + "ip4:" + one(ADDRESSES);
        }
    }

    private static String record() {
        StringBuilder data = new StringBuilder(below(20) == 0 ? "v=spf10" : "v=spf1");
        for (int k = below(6); k > 0; k--) {
            data.append(below(8) == 0 ? "  " : " ").append(term());
        }
        return data.append(below(8) == 0 ? " " : "").toString();
    }

    private static String tag() {
        switch (below(30)) {
            case 0:
                return one(WRONG_TAGS);
            case 1:
                return one(new String[] {"", "p", "x=", "pct=", "p=none"}) + noise("p=;x 0195");
            default:
                return one(TAGS);
        }
    }

    private static String policyData() {
        StringBuilder data = new StringBuilder("v=DMARC1");
        for (int k = 1 + below(4); k > 0; k--) {
            data.append(below(2) == 0 ? ";" : "; ").append(tag()).append(below(6) == 0 ? " " : "");
        }
        return data.append(below(3) == 0 ? ";" : "").toString();
    }

    private static String rowText(int type) {
        String name = one(names);
        switch (type) {
            case 0:
                return name + " " + one(ADDRESSES);
            case 1:
                return name + " " + one(names);
            case 2:
                return below(3) == 0 ? "_dmarc." + name + " " + policyData() : name + " " + record();
            default:
                return below(3) == 0 ? "_dmarc." + name : name;
        }
    }

    private static String spoilt(String text) {
        int at = below(text.length() + 1);
        return text.substring(0, at) + (char) (32 + below(95)) + text.substring(Math.min(text.length(), at + below(2)));
    }

    private static void text(Probe probe, Model model, String text) {
        probe.guard().wipe();
        model.wipe();
        String typed = below(25) == 0 ? spoilt(text) : text;
        for (int i = 0; i < typed.length(); i += 8) {
            long part = Probe.part(typed.substring(i));
            Probe.due("type of " + typed, probe.guard().type(part), model.type(part));
        }
    }

    private static int kindOfRow() {
        int[] kinds = {0, 0, 0, 0, 1, 1, 1, 2, 2, 2, 2, 2, 2, 2, 2, 4, below(2) == 0 ? 3 : 4};
        return kinds[below(kinds.length)];
    }

    private static void step(int run, Probe probe, Model model) {
        int k = below(20) - 2;
        int chance = below(30) == 0 ? 100 : below(100);
        int address = Probe.address(one(ADDRESSES));
        int type = below(60) == 0 ? 5 : kindOfRow();
        String name = one(names);
        switch (below(12)) {
            case 0:
                Probe.due(run + ": drop(" + k + ")", probe.guard().drop(k), model.drop(k));
                break;
            case 1:
            case 2:
                text(probe, model, name);
                Probe.due(run + ": policy of " + name, Probe.caught(() -> probe.guard().policy(chance)), model.policy(chance));
                break;
            case 3:
            case 4:
            case 5:
            case 6:
                text(probe, model, name);
                Probe.due(run + ": check of " + name, Probe.caught(() -> probe.guard().check(address)), model.check(address));
                break;
            default:
                text(probe, model, rowText(Math.min(type, 4)));
                Probe.due(run + ": row(" + type + ")", Probe.caught(() -> probe.guard().row(type)), model.row(type));
                break;
        }
        int at = below(20) - 3;
        Probe.due(run + ": what is seen at " + at, probe.glance(at), model.glance(at));
    }

    public static void main(String[] args) {
        for (int run = 0; run < RUNS; run++) {
            Probe probe = new Probe();
            Model model = new Model();
            names = new String[] {one(NAMES), one(NAMES), one(NAMES), one(NAMES), one(NAMES)};
            for (int step = 0; step < STEPS; step++) {
                step(run, probe, model);
            }
        }
        Probe.end();
    }
}
