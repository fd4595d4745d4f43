/** Promise 10: policy; with promise 9 for the names that it asks for. */
public final class PolicyTest {
    private static final String NAME_48 = "aaaaaaaaaaaaaaaa.aaaaaaaaaaaaaaaa.aaaaaaaaaaaaaa";

    public static void main(String[] args) {
        refused();
        dataThatAreNoPolicy();
        dataThatArePolicies();
        verdicts();
        chances();
        places();
        organisations();
        alignment();
        errors();
        latestStays();
        Probe.end();
    }

    /** A table of rows, after a check of d.e. */
    private static Probe table(String... rows) {
        Probe probe = Probe.of(rows);
        probe.check("1.2.3.4", "d.e");
        return probe;
    }

    private static void says(Probe probe, int chance, String name, int want, String asked) {
        probe.says(chance, name, want, asked);
    }

    private static void data(String data, int want) {
        Probe.due("'" + data + "'", table("2 _dmarc.d.e " + data).policy(0, "d.e"), want);
    }

    private static void refused() {
        String[] texts = {"", "a.", ".a", "a..b", "A.b", "a.b ", NAME_48 + "a", "aaaaaaaaaaaaaaaaa.b"};
        for (String text : texts) {
            refuses(table("2 _dmarc.d.e v=DMARC1;p=none"), 0, text, Probe.ILLEGAL_ARGUMENT);
            refuses(new Probe(), 0, text, Probe.ILLEGAL_ARGUMENT);
        }
        int[] chances = {-1, 100, Integer.MIN_VALUE, Integer.MAX_VALUE};
        for (int chance : chances) {
            refuses(table(), chance, "d.e", Probe.ILLEGAL_ARGUMENT);
            refuses(new Probe(), chance, "d.e", Probe.ILLEGAL_ARGUMENT);
        }
        refuses(new Probe(), 0, "d.e", Probe.ILLEGAL_STATE);
        refuses(new Probe(), 99, "d.e", Probe.ILLEGAL_STATE);
        says(table(), 99, NAME_48, 0, "_dmarc.aaaaaaaaaaaaaaaa.aaaaaaaaaaaaaa");
        says(table(), 0, "com", 0, "_dmarc.com");
    }

    private static void refuses(Probe probe, int chance, String text, int want) {
        probe.text(text);
        String before = probe.view();
        Probe.due("policy(" + chance + ") of '" + text + "'", Probe.caught(() -> probe.guard().policy(chance)), want);
        Probe.due("after it", probe.view(), before);
    }

    private static void dataThatAreNoPolicy() {
        String[] none = {"v=DMARC1", "v=DMARC1;", "v=DMARC1; ;", "v=DMARC1 ;p=none", "v=DMARC1p=none", "v=DMARC1 p=none", "v=DMARC2;p=none",
            "v=dmarc1;p=none", " v=DMARC1;p=none", "p=none;v=DMARC1", "v=DMARC1;p=", "v=DMARC1;p", "v=DMARC1;p =none", "v=DMARC1;p= none",
            "v=DMARC1;p=no ne", "v=DMARC1;p=None", "v=DMARC1;P=none", "v=DMARC1;p=x;p=none", "v=DMARC1;=none;p=none", "v=DMARC1;p=none;x",
            "v=DMARC1;p=none;x=", "v=DMARC1;p=none;x1=y", "v=DMARC1;p=none;X=y", "v=DMARC1;p=none;x{=y", "v=DMARC1;p=none;`=y", "v=DMARC1;p=none;pct=:", "v=DMARC1;p=none;sp=x", "v=DMARC1;sp=none", "v=DMARC1;p=none;sp=x;sp=none",
            "v=DMARC1;p=none;aspf=x", "v=DMARC1;p=none;aspf=R", "v=DMARC1;p=none;aspf=rs", "v=DMARC1;p=none;pct=101", "v=DMARC1;p=none;pct=01",
            "v=DMARC1;p=none;pct=00", "v=DMARC1;p=none;pct=-1", "v=DMARC1;p=none;pct=1000", "v=DMARC1;p=none;pct=5x", "v=DMARC1;p=none x=y",
            "v=DMARC1;p=none;=", "v=DMARC1;p=none=", "v=DMARC1;p=nonex", "v=DMARC1;pp=none", "v=DMARC1;p=none;pct=5 0", "v=DMARC1,p=none", "v=DMARC"};
        for (String text : none) {
            data(text, 0);
        }
    }

    private static void dataThatArePolicies() {
        String[] some = {"v=DMARC1;p=reject", "v=DMARC1; p=reject", "v=DMARC1;   p=reject   ", "v=DMARC1;p=reject;", "v=DMARC1;;;p=reject; ;  ",
            "v=DMARC1;p=reject;p=x", "v=DMARC1;p=reject;p=none", "v=DMARC1;x=y;p=reject", "v=DMARC1;v=DMARC2;p=reject", "v=DMARC1;p=reject;rua=mailto:a@b,c=d!10%",
            "v=DMARC1;p=reject;sp=none;sp=x", "v=DMARC1;sp=quarantine;p=reject", "v=DMARC1;p=reject;aspf=r;aspf=x", "v=DMARC1;p=reject;aspf=s",
            "v=DMARC1;p=reject;pct=100", "v=DMARC1;p=reject;pct=1", "v=DMARC1;p=reject;pct=10;pct=x", "v=DMARC1;p=reject;adkim=zz;x=", "v=DMARC1;p=reject;x=="};
        for (String text : some) {
            data(text, text.endsWith("x=") ? 0 : 4);
        }
    }

    private static void verdicts() {
        data("v=DMARC1;p=none", 2);
        data("v=DMARC1;p=quarantine", 3);
        data("v=DMARC1;p=reject", 4);
        says(table(), 0, "d.e", 0, "_dmarc.d.e");
        says(table("2 d.e v=spf1 all", "2 _dmarc.d.e v=DMARC1;p=reject"), 0, "d.e", 1, "_dmarc.d.e");
        String[] others = {"-all", "?all", "~all", "x"};
        for (String term : others) {
            says(table("2 d.e v=spf1 " + term, "2 _dmarc.d.e v=DMARC1;p=reject"), 0, "d.e", 4, "_dmarc.d.e");
        }
        says(table("3 d.e", "2 _dmarc.d.e v=DMARC1;p=reject"), 0, "d.e", 4, "_dmarc.d.e");
        says(table("2 d.e v=spf1 all"), 0, "d.e", 0, "_dmarc.d.e");
    }

    private static void chance(String tags, int chance, int want) {
        says(table("2 _dmarc.d.e v=DMARC1;" + tags), chance, "d.e", want, "_dmarc.d.e");
    }

    private static void chances() {
        chance("p=reject", 99, 4);
        chance("p=reject;pct=100", 99, 4);
        chance("p=reject;pct=99", 99, 3);
        chance("p=reject;pct=99", 98, 4);
        chance("p=reject;pct=0", 0, 3);
        chance("p=reject;pct=1", 0, 4);
        chance("p=reject;pct=1", 1, 3);
        chance("p=quarantine;pct=50", 49, 3);
        chance("p=quarantine;pct=50", 50, 2);
        chance("p=none;pct=0", 99, 2);
        chance("p=reject;pct=20;pct=80", 50, 3);
        says(table("2 d.e v=spf1 all", "2 _dmarc.d.e v=DMARC1;p=reject;pct=0"), 99, "d.e", 1, "_dmarc.d.e");
        says(table("2 _dmarc.d.e v=DMARC1;p=none;sp=reject;pct=10"), 10, "x.d.e", 3, "_dmarc.d.e");
    }

    private static void places() {
        String own = "2 _dmarc.x.d.e v=DMARC1;p=none;sp=reject";
        String above = "2 _dmarc.d.e v=DMARC1;p=reject;sp=quarantine";
        says(table(own, above), 0, "x.d.e", 2, "_dmarc.x.d.e");
        says(table(own, above), 0, "d.e", 4, "_dmarc.d.e");
        says(table(own, above), 0, "y.d.e", 3, "_dmarc.d.e");
        says(table(own, above), 0, "z.x.d.e", 3, "_dmarc.d.e");
        says(table("2 _dmarc.d.e v=DMARC1;p=reject"), 0, "y.d.e", 4, "_dmarc.d.e");
        says(table("2 _dmarc.d.e v=DMARC1;p=reject;sp=none"), 0, "d.e", 4, "_dmarc.d.e");
        // Rows that do not count do not stand in the way, ahead or behind.
        says(table("2 _dmarc.d.e x", "2 _dmarc.d.e v=DMARC1;p=reject", "2 _dmarc.d.e v=DMARC1;p=y"), 0, "d.e", 4, "_dmarc.d.e");
        says(table("2 _dmarc.x.d.e v=DMARC1;p=y", above), 0, "x.d.e", 3, "_dmarc.d.e");
        // Of more than one no single one counts.
        says(table(own, own, above), 0, "x.d.e", 3, "_dmarc.d.e");
        says(table(own, above, above), 0, "x.d.e", 2, "_dmarc.x.d.e");
        says(table(above, above), 0, "x.d.e", 0, "_dmarc.d.e");
        says(table(above, above), 0, "d.e", 0, "_dmarc.d.e");
        // Names that are longer than any row's.
        String name = "aaaaaaaaaaaaaaaa.aaaaaaaaaaaaaaaa.aaaaaaaaaaa.bc";
        says(table("4 " + name), 0, name, 0, "_dmarc." + name);
        says(table("2 _dmarc.aaaaaaaaaaa.bc v=DMARC1;p=none"), 0, name, 2, "_dmarc.aaaaaaaaaaa.bc");
        says(table("4 " + NAME_48), 0, NAME_48, 0, "_dmarc." + NAME_48);
        Probe longest = table("4 " + NAME_48);
        longest.policy(0, NAME_48);
        Probe.due("asked(-1)", longest.guard().asked(-1), 55);
        Probe.due("asked(54)", longest.guard().asked(54), (int) 'a');
        Probe.due("asked(55)", longest.guard().asked(55), -1);
    }

    /** Without any policy the last name asked for is that of the organisation. */
    private static void organisation(String name, String want, String... suffixes) {
        String[] rows = new String[suffixes.length];
        for (int k = 0; k < rows.length; k++) {
            rows[k] = "4 " + suffixes[k];
        }
        says(table(rows), 0, name, 0, "_dmarc." + want);
    }

    private static void organisations() {
        organisation("a.b.c.d", "c.d");
        organisation("c.d", "c.d");
        organisation("d", "d");
        organisation("a.b.c.d", "c.d", "d");
        organisation("a.b.c.d", "b.c.d", "c.d");
        organisation("a.b.c.d", "a.b.c.d", "b.c.d");
        organisation("a.b.c.d", "a.b.c.d", "a.b.c.d");
        organisation("a.b.c.d", "b.c.d", "d", "c.d");
        organisation("a.b.c.d", "b.c.d", "c.d", "d");
        organisation("a.b.c.d", "a.b.c.d", "d", "a.b.c.d", "c.d");
        organisation("c.d", "c.d", "c.d");
        organisation("c.d", "c.d", "d");
        organisation("d", "d", "d");
        organisation("a.b.c.d", "c.d", "x.c.d");
        organisation("a.b.cc.d", "cc.d", "c.d");
        organisation("a.b.c.d", "c.d", "a.b.c");
        organisation("a.b.c.d", "c.d", "z.a.b.c.d");
        organisation("aa.bb.cc.dd", "bb.cc.dd", "cc.dd");
        // Only a row of that type is a suffix.
        says(table("1 c.d x", "2 c.d x", "0 c.d 1.1.1.1", "3 c.d"), 0, "a.b.c.d", 0, "_dmarc.c.d");
    }

    private static void aligned(String domain, String name, String tags, int want, String... rows) {
        Probe probe = table(rows);
        probe.row(2, domain + " v=spf1 all");
        probe.row(2, "_dmarc." + name + " v=DMARC1;p=reject;" + tags);
        Probe.due("check of " + domain, probe.check("1.1.1.1", domain), 2);
        says(probe, 0, name, want, "_dmarc." + name);
    }

    private static void alignment() {
        aligned("a.b", "a.b", "", 1);
        aligned("a.b", "a.b", "aspf=s", 1);
        aligned("x.a.b", "a.b", "", 1);
        aligned("x.a.b", "a.b", "aspf=r", 1);
        aligned("x.a.b", "a.b", "aspf=s", 4);
        aligned("a.b", "x.a.b", "", 1);
        aligned("a.b", "x.a.b", "aspf=s", 4);
        aligned("y.a.b", "x.a.b", "", 1);
        aligned("y.a.b", "x.a.b", "aspf=s;aspf=r", 4);
        aligned("c.b", "a.b", "", 4);
        aligned("xa.b", "a.b", "", 4);
        aligned("y.a.b", "x.a.b", "", 4, "4 a.b");
        aligned("z.y.a.b", "y.a.b", "", 1, "4 a.b");
        aligned("x.a.b", "a.b", "", 4, "4 a.b");
        aligned("a.bb", "a.b", "", 4);
        // The first domain counts, not the one that the check ended at.
        Probe probe = table("2 d.e v=spf1 redirect=a.b", "2 a.b v=spf1 all", "2 _dmarc.a.b v=DMARC1;p=reject", "2 _dmarc.d.e v=DMARC1;p=reject");
        says(probe, 0, "a.b", 4, "_dmarc.a.b");
        says(probe, 0, "d.e", 1, "_dmarc.d.e");
    }

    private static void errors() {
        says(table("3 _dmarc.d.e", "2 _dmarc.d.e v=DMARC1;p=none"), 0, "d.e", 5, "_dmarc.d.e");
        says(table("3 _dmarc.x.d.e", "2 _dmarc.d.e v=DMARC1;p=none"), 0, "x.d.e", 5, "_dmarc.x.d.e");
        says(table("3 _dmarc.d.e"), 0, "x.d.e", 5, "_dmarc.d.e");
        says(table("3 _dmarc.d.e", "2 _dmarc.x.d.e v=DMARC1;p=none"), 0, "x.d.e", 2, "_dmarc.x.d.e");
        says(table("3 d.e", "2 _dmarc.d.e v=DMARC1;p=none"), 0, "d.e", 2, "_dmarc.d.e");
        says(table("2 d.e v=spf1 all", "3 _dmarc.d.e"), 0, "d.e", 5, "_dmarc.d.e");
    }

    private static void latestStays() {
        Probe probe = table("2 d.e v=spf1 a ~all", "3 _dmarc.d.e");
        String before = probe.latest();
        says(probe, 0, "d.e", 5, "_dmarc.d.e");
        Probe.due("latest after policy", probe.latest(), before);
        Probe.due("latest after policy", before, "4 1 1 1 1");
        // A refused check leaves the latest one, and its domain, as they were.
        probe.check("1.1.1.1", "x..y");
        Probe.due("latest after a refused check", probe.latest(), before);
    }
}
