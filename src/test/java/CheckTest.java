/** Promises 7 to 9: check, latest, asked. */
public final class CheckTest {
    private static final String NAME_48 = "aaaaaaaaaaaaaaaa.aaaaaaaaaaaaaaaa.aaaaaaaaaaaaaa";

    public static void main(String[] args) {
        refusedTexts();
        records();
        termsThatAreNone();
        termsThatAreSome();
        signs();
        addresses();
        hosts();
        mails();
        exists();
        includes();
        redirects();
        macros();
        lookupLimit();
        voidLimit();
        brokenNames();
        latestAndAsked();
        Probe.end();
    }

    private static void checks(Probe probe, String address, String domain, String want) {
        probe.checks(address, domain, want);
    }

    private static void record(String data, int want) {
        Probe.due("'" + data + "'", Probe.of("2 d.e " + data).check("1.2.3.4", "d.e"), want);
    }

    private static void refusedTexts() {
        String[] texts = {"", ".", "a.", ".a", "a..b", "A.b", "a.b ", " a.b", "a/b", "aaaaaaaaaaaaaaaaa.b", NAME_48 + "a"};
        for (String text : texts) {
            Probe probe = Probe.of("2 d.e v=spf1 -all");
            probe.check("1.2.3.4", "d.e");
            probe.text(text);
            String before = probe.view();
            Probe.due("check of '" + text + "'", Probe.caught(() -> probe.guard().check(1)), Probe.ILLEGAL_ARGUMENT);
            Probe.due("after check of '" + text + "'", probe.view(), before);
        }
        checks(new Probe(), "1.2.3.4", NAME_48, "0 0 0 -1 1 " + NAME_48);
    }

    private static void records() {
        record("v=spf1", 1);
        record("v=spf1 ", 1);
        record("v=spf1    ", 1);
        record("v=spf1 -all", 3);
        record("v=spf1   -all   ", 3);
        record("v=spf10 -all", 0);
        record("v=spf1-all", 0);
        record("v=spf", 0);
        record("V=spf1 -all", 0);
        record(" v=spf1 -all", 0);
        checks(Probe.of("2 com v=spf1 all", "3 com"), "1.2.3.4", "com", "0 0 0 -1 1 ");
        checks(Probe.of("2 d.e x", "2 d.e v=spf1 -all", "2 d.e y", "2 d.f v=spf1 all"), "1.2.3.4", "d.e", "3 0 0 0 1 d.e");
        checks(Probe.of("2 d.e v=spf1 all", "2 d.e v=spf1"), "1.2.3.4", "d.e", "6 0 0 -1 1 d.e");
        checks(Probe.of("1 d.e v"), "1.2.3.4", "d.e", "0 0 0 -1 1 d.e");
    }

    private static void termsThatAreNone() {
        String[] terms = {"foo", "ALL", "All", "+", "-", "++all", "+-all", "all:", "all:x.y", "all/8", "all/", "include",
            "include:", "include:a/b", "include:a.b/8", "include/8", "a:", "a:/8", "a/", "a/33", "a/08", "a/00", "a/x",
            "a/8/8", "a/:", "x{=y", "{x=y", "x`=y", "a//8", "a:x.y/", "a:x.y/33", "a:x.y/-1", "a:x.y/8x", "a/100", "mx:", "mx/", "mx/33", "mx:/8", "mx:x/01", "m",
            "ip4", "ip4:", "ip4:1", "ip4:1.2.3", "ip4:1.2.3.4/", "ip4:1.2.3.4/33", "ip4:1.2.3.4/08", "ip4:01.2.3.4",
            "ip4:1.2.3.256", "ip4:1.2.3.4.5", "ip4:%{i}", "ip4/8", "ip4:/8", "ip6:1", "exists", "exists:", "exists:a/8", "exists/8",
            "exists:%", "exists:%x", "exists:%{", "exists:%{}", "exists:%{d", "exists:%{q}", "exists:%{D}", "exists:%{d0}", "exists:%{d:}", "exists:%{d/}",
            "exists:%{d12}", "exists:%{dr2}", "exists:%{drr}", "exists:%{r}", "exists:%%%", "exists:%{d}%", "exists:%{d-}",
            "exists:% {d}", "a:%/8", "a:%{d/8", "redirect=", "redirect=%", "redirect:x.y", "redirect", "exp=%", "exp=%{x}", "x=%%%",
            "=x", "-x=y", "+all=x", "9x=y", "_x=y", "X=y", "x:=y", "x,y=z", "ptr", "ip4.x"};
        for (String term : terms) {
            record("v=spf1 " + term, 6);
            // Nothing is done by the terms ahead of a wrong one.
            checks(Probe.of("2 d.e v=spf1 a all " + term), "1.2.3.4", "d.e", "6 0 0 -1 1 d.e");
        }
        checks(Probe.of("2 d.e v=spf1 all redirect=x.y redirect=x.y"), "1.2.3.4", "d.e", "6 0 0 -1 1 d.e");
    }

    private static void termsThatAreSome() {
        String[] terms = {"x=", "x=y", "exp=%{d}/%%", "a=b", "all=", "ip4=1", "a.b-c_d9=e=f", "x=a/b", "x=x x=x", "x=:",
            "redirect=x/y", "redirects= redirects=", "redirect=q.q", "redirect.=/"};
        for (String term : terms) {
            record("v=spf1 " + term + " -all", 3);
            record("v=spf1 -all " + term, 3);
        }
        String[] idle = {"a", "a:x.y", "a/0", "a:x.y/0", "a:x.y/32", "a/9", "a:=", "a:x:y", "mx", "mx:x.y", "mx/0", "mx:x.y/32",
            "exists:x.y", "exists:%%", "exists:%%{d}", "exists:%{d9r}", "exists:%%%{ir}%{o1}", "ip4:1.2.3.5", "ip4:1.2.3.5/32",
            "ip4:129.2.3.4/1", "a:!\"#$&'()*+,-.;<=>?@[]^_`{|}~"};
        for (String term : idle) {
            record("v=spf1 ~" + term + " -all", 3);
        }
    }

    private static void signs() {
        record("v=spf1 all", 2);
        record("v=spf1 +all", 2);
        record("v=spf1 -all", 3);
        record("v=spf1 ?all", 1);
        record("v=spf1 ~all", 4);
        record("v=spf1 ~ip4:1.2.3.4 -all", 4);
        record("v=spf1 -all all", 3);
    }

    private static void addresses() {
        record("v=spf1 ip4:1.2.3.4", 2);
        record("v=spf1 ip4:1.2.3.5", 1);
        record("v=spf1 ip4:1.2.3.5/31", 2);
        record("v=spf1 ip4:1.2.3.7/30", 2);
        record("v=spf1 ip4:1.2.3.7/31", 1);
        record("v=spf1 ip4:200.0.0.0/0", 2);
        record("v=spf1 ip4:128.0.0.0/1", 1);
        record("v=spf1 ip4:127.0.0.0/1", 2);
        record("v=spf1 ip4:1.255.255.255/8", 2);
        record("v=spf1 ip4:1.255.255.255/9", 1);
        Probe high = Probe.of("2 d.e v=spf1 ip4:255.255.255.255 -ip4:128.0.0.0/1 ?ip4:0.0.0.0");
        checks(high, "255.255.255.255", "d.e", "2 0 0 0 1 d.e");
        checks(high, "255.255.255.254", "d.e", "3 0 0 1 1 d.e");
        checks(high, "0.0.0.0", "d.e", "1 0 0 2 1 d.e");
        checks(high, "127.255.255.255", "d.e", "1 0 0 -1 1 d.e");
    }

    private static void hosts() {
        Probe probe = Probe.of("2 d.e v=spf1 a -a:h.e/24 ~a/8", "0 d.e 1.2.3.4", "0 h.e 5.6.7.8", "0 h.e 9.9.9.9", "0 d.e 8.8.8.8");
        checks(probe, "1.2.3.4", "d.e", "2 1 0 0 1 d.e");
        checks(probe, "8.8.8.8", "d.e", "2 1 0 0 1 d.e");
        checks(probe, "5.6.7.9", "d.e", "3 2 0 1 1 h.e");
        checks(probe, "9.9.9.1", "d.e", "3 2 0 1 1 h.e");
        checks(probe, "8.1.1.1", "d.e", "4 3 0 2 1 d.e");
        checks(probe, "5.6.8.8", "d.e", "1 3 0 -1 1 d.e");
        checks(Probe.of("2 d.e v=spf1 a/0", "0 d.e 1.1.1.1"), "255.0.0.0", "d.e", "2 1 0 0 1 d.e");
        checks(Probe.of("0 d.e 1.1.1.1", "2 d.e v=spf1 a"), "1.1.1.1", "d.e", "2 1 0 0 1 d.e");
        checks(Probe.of("2 d.e v=spf1 a:com", "0 com 1.1.1.1"), "1.1.1.1", "d.e", "2 1 0 0 1 com");
        // What is no name is not asked for, but costs the lookup.
        checks(Probe.of("2 d.e v=spf1 a:x..y mx:X exists:%% -all"), "1.1.1.1", "d.e", "3 3 0 3 1 d.e");
    }

    private static void mails() {
        Probe probe = Probe.of("2 d.e v=spf1 mx -mx:m.e/16", "1 d.e x.e", "1 d.e y.e", "0 x.e 1.1.1.1", "0 y.e 2.2.2.2", "1 m.e y.e");
        checks(probe, "1.1.1.1", "d.e", "2 1 0 0 1 x.e");
        checks(probe, "2.2.2.2", "d.e", "2 1 0 0 1 y.e");
        checks(probe, "2.2.3.3", "d.e", "3 2 0 1 1 y.e");
        checks(probe, "2.3.3.3", "d.e", "1 2 0 -1 1 y.e");
        checks(Probe.of("1 d.e x.e", "2 d.e v=spf1 mx", "0 x.e 1.1.1.1"), "1.1.1.1", "d.e", "2 1 0 0 1 x.e");
        checks(Probe.of("2 d.e v=spf1 mx -all"), "1.1.1.1", "d.e", "3 1 1 1 1 d.e");
        checks(Probe.of("2 d.e v=spf1 mx -all", "1 d.e v.e"), "1.1.1.1", "d.e", "3 1 1 1 1 v.e");
        checks(Probe.of("2 d.e v=spf1 mx -all", "1 d.e v.e", "1 d.e w.e", "1 d.e h.e", "0 h.e 1.1.1.1"),
            "1.1.1.1", "d.e", "2 1 2 0 1 h.e");
        checks(Probe.of("2 d.e v=spf1 mx all", "1 d.e v.e", "1 d.e w.e", "1 d.e x.e", "0 h.e 1.1.1.1"),
            "1.1.1.1", "d.e", "6 1 3 -1 1 x.e");
        String[] rows = new String[16];
        rows[0] = "2 d.e v=spf1 mx ~all";
        for (int k = 1; k <= 11; k++) {
            rows[k] = "1 d.e " + (k < 10 ? "x.e" : k == 10 ? "t.e" : "l.e");
        }
        rows[12] = "0 x.e 9.9.9.9";
        rows[13] = "0 t.e 1.1.1.10";
        rows[14] = "0 l.e 1.1.1.11";
        rows[15] = "4 z";
        checks(Probe.of(rows), "1.1.1.10", "d.e", "2 1 0 0 1 t.e");
        checks(Probe.of(rows), "1.1.1.11", "d.e", "4 1 0 1 1 t.e");
    }

    private static void exists() {
        Probe probe = Probe.of("2 d.e v=spf1 -exists:%{i}.e ~all", "0 1.2.3.4.e 9.9.9.9", "1 1.2.3.5.e a");
        checks(probe, "1.2.3.4", "d.e", "3 1 0 0 1 1.2.3.4.e");
        checks(probe, "1.2.3.5", "d.e", "4 1 1 1 1 1.2.3.5.e");
    }

    private static void includes() {
        String[] inner = {"v=spf1 all", "v=spf1 ?all", "v=spf1 -all", "v=spf1 ~all", "v=spf1"};
        for (String data : inner) {
            String want = data.endsWith("1 all") ? "4 1 0 0 2 i.e" : "3 1 0 1 2 i.e";
            checks(Probe.of("2 d.e v=spf1 ~include:i.e -all", "2 i.e " + data), "1.1.1.1", "d.e", want);
        }
        checks(Probe.of("2 d.e v=spf1 include:i.e all"), "1.1.1.1", "d.e", "6 1 0 -1 2 i.e");
        checks(Probe.of("2 d.e v=spf1 include:com all", "2 com v=spf1 all"), "1.1.1.1", "d.e", "6 1 0 -1 2 d.e");
        checks(Probe.of("2 d.e v=spf1 include:i..e all"), "1.1.1.1", "d.e", "6 1 0 -1 1 d.e");
        checks(Probe.of("2 d.e v=spf1 include:i.e all", "2 i.e v=spf1 x"), "1.1.1.1", "d.e", "6 1 0 -1 2 i.e");
        checks(Probe.of("2 d.e v=spf1 include:i.e all", "3 i.e"), "1.1.1.1", "d.e", "5 1 0 -1 2 i.e");
        // An inner match is not one of the first record, and the outer term is taken up again behind it.
        checks(Probe.of("2 d.e v=spf1 ?include:i.e x=y ~include:j.e", "2 i.e v=spf1 ip4:9.9.9.9 -ip4:1.1.1.1", "2 j.e v=spf1 a all"),
            "1.1.1.1", "d.e", "4 3 1 1 3 j.e");
        checks(Probe.of("2 d.e v=spf1 include:i.e", "2 i.e v=spf1 redirect=j.e", "2 j.e v=spf1 a:%{d}.%{o} all"),
            "1.1.1.1", "d.e", "2 3 1 0 3 j.e.d.e");
    }

    private static void redirects() {
        String[] rows = {"all", "?all", "-all", "~all"};
        for (int k = 0; k < 4; k++) {
            int want = new int[] {2, 1, 3, 4}[k];
            checks(Probe.of("2 d.e v=spf1 redirect=r.e", "2 r.e v=spf1 " + rows[k]), "1.1.1.1", "d.e", want + " 1 0 -1 2 r.e");
        }
        checks(Probe.of("2 d.e v=spf1 redirect=r.e a", "2 r.e v=spf1 -all"), "1.1.1.1", "d.e", "3 2 1 -1 2 r.e");
        checks(Probe.of("2 d.e v=spf1 redirect=r.e ~all", "2 r.e v=spf1 -all"), "1.1.1.1", "d.e", "4 0 0 0 1 d.e");
        checks(Probe.of("2 d.e v=spf1 redirect=r.e"), "1.1.1.1", "d.e", "6 1 0 -1 2 r.e");
        checks(Probe.of("2 d.e v=spf1 redirect=com"), "1.1.1.1", "d.e", "6 1 0 -1 2 d.e");
        checks(Probe.of("2 d.e v=spf1 redirect=r/e"), "1.1.1.1", "d.e", "6 1 0 -1 1 d.e");
        checks(Probe.of("2 d.e v=spf1 redirect=r.%{d}", "2 r.d.e v=spf1 redirect=s.%{d}", "2 s.r.d.e v=spf1 -all"),
            "1.1.1.1", "d.e", "3 2 0 -1 3 s.r.d.e");
        checks(Probe.of("2 d.e v=spf1 redirect=r.e", "3 r.e"), "1.1.1.1", "d.e", "5 1 0 -1 2 r.e");
    }

    private static void expands(String target, String want) {
        Probe probe = Probe.of("2 d.e.f.g v=spf1 redirect=i.j.k", "2 i.j.k v=spf1 exists:" + target);
        checks(probe, "1.20.103.4", "d.e.f.g", "1 2 1 -1 2 " + want);
    }

    private static void macros() {
        expands("x", "x");
        expands("%{d}", "i.j.k");
        expands("%{o}", "d.e.f.g");
        expands("%{i}", "1.20.103.4");
        expands("%{dr}", "k.j.i");
        expands("%{or}", "g.f.e.d");
        expands("%{ir}", "4.103.20.1");
        expands("%{d1}", "k");
        expands("%{d2}", "j.k");
        expands("%{d3}", "i.j.k");
        expands("%{d4}", "i.j.k");
        expands("%{o9}", "d.e.f.g");
        expands("%{i2}", "103.4");
        expands("%{d1r}", "i");
        expands("%{d2r}", "j.i");
        expands("%{i3r}", "103.20.1");
        expands("%{o9r}", "g.f.e.d");
        expands("a-%{d1}_%{o1}.%{i1r}b", "a-k_g.1b");
        checks(Probe.of("2 a.b v=spf1 exists:%%.b exists:%%{d} exists:%{d}%%", "0 a.b 1.1.1.1"), "0.0.0.0", "a.b", "1 3 0 -1 1 a.b");
        checks(Probe.of("2 a.b v=spf1 exists:%{i}.x", "0 0.0.0.0.x 1.1.1.1"), "0.0.0.0", "a.b", "2 1 0 0 1 0.0.0.0.x");
        String[] addresses = {"255.255.255.255", "0.0.0.0", "100.99.10.9", "101.110.199.200", "250.20.11.1", "1.90.19.109"};
        for (String address : addresses) {
            checks(Probe.of("2 a.b v=spf1 exists:%{i}"), address, "a.b", "1 1 1 -1 1 " + address);
        }
        String twelveParts = "a.b.c.d.e.f.g.h.i.j.k.l";
        String[] macros = {"%{d}", "%{dr}", "%{d9}", "%{d9r}", "%{d8}", "%{d8r}"};
        String[] expanded = {twelveParts, "l.k.j.i.h.g.f.e.d.c.b.a", "d.e.f.g.h.i.j.k.l", "i.h.g.f.e.d.c.b.a", "e.f.g.h.i.j.k.l",
            "h.g.f.e.d.c.b.a"};
        for (int k = 0; k < macros.length; k++) {
            checks(Probe.of("2 " + twelveParts + " v=spf1 exists:" + macros[k]), "1.1.1.1", twelveParts, "1 1 1 -1 1 " + expanded[k]);
        }
        // 48 characters are a name, 49 are none.
        String twelve = "abcdefgh.ijk";
        checks(Probe.of("2 " + twelve + " v=spf1 exists:%{d}%{d}%{d}%{d}"), "1.1.1.1", twelve, "1 1 1 -1 1 " + twelve.repeat(4));
        checks(Probe.of("2 " + twelve + " v=spf1 exists:%{d}%{d}%{d}%{d}x"), "1.1.1.1", twelve, "1 1 0 -1 1 " + twelve);
        checks(Probe.of("2 " + twelve + " v=spf1 exists:%{d}%{d}%{d}%{d}%{d}%{d}%{d}%{d}"), "1.1.1.1", twelve, "1 1 0 -1 1 " + twelve);
        // A label of 17 characters, put together.
        checks(Probe.of("2 abcdefghijklmnop.b v=spf1 exists:%{d1}%{d2r}"), "1.1.1.1", "abcdefghijklmnop.b",
            "1 1 1 -1 1 bb.abcdefghijklmnop");
        checks(Probe.of("2 b.abcdefghijklmnop v=spf1 exists:x%{d1}"), "1.1.1.1", "b.abcdefghijklmnop", "1 1 0 -1 1 b.abcdefghijklmnop");
    }

    private static void lookupLimit() {
        String ten = " ip4:1.1.1.2 a a a a a exists:h.e mx a:! mx:! a";
        String[] rows = {"0 d.e 9.9.9.9", "0 h.e 9.9.9.9", "1 d.e d.e", ""};
        rows[3] = "2 d.e v=spf1 a" + ten.replace(" exists:h.e", "") + " -all";
        checks(Probe.of(rows), "1.1.1.1", "d.e", "3 10 0 11 1 d.e");
        rows[3] = "2 d.e v=spf1 a a" + ten.replace(" exists:h.e", "") + " -all";
        checks(Probe.of(rows), "1.1.1.1", "d.e", "6 10 0 -1 1 d.e");
        rows[3] = "2 d.e v=spf1 a" + ten.replace(" exists:h.e", "") + " redirect=d.e";
        checks(Probe.of(rows), "1.1.1.1", "d.e", "6 10 0 -1 1 d.e");
        checks(Probe.of("2 d.e v=spf1 redirect=d.e"), "1.1.1.1", "d.e", "6 10 0 -1 11 d.e");
        checks(Probe.of("2 d.e v=spf1 include:d.e"), "1.1.1.1", "d.e", "6 10 0 -1 11 d.e");
        // The inner lookups count too: 1 + 9, and the next is one too many.
        checks(Probe.of("2 d.e v=spf1 include:i.e all", "0 h.e 9.9.9.9", "2 i.e v=spf1" + " a:h.e".repeat(9)),
            "1.1.1.1", "d.e", "2 10 0 1 2 h.e");
        checks(Probe.of("2 d.e v=spf1 include:i.e a:h.e all", "0 h.e 9.9.9.9", "2 i.e v=spf1" + " a:h.e".repeat(9)),
            "1.1.1.1", "d.e", "6 10 0 -1 2 h.e");
    }

    private static void voidLimit() {
        checks(Probe.of("2 d.e v=spf1 a:x.e mx:y.e all"), "1.1.1.1", "d.e", "2 2 2 2 1 y.e");
        checks(Probe.of("2 d.e v=spf1 a:x.e mx:y.e exists:z.e all"), "1.1.1.1", "d.e", "6 3 3 -1 1 z.e");
        checks(Probe.of("2 d.e v=spf1 a:x.e include:i.e all", "2 i.e v=spf1 a:y.e a:z.e all"), "1.1.1.1", "d.e", "6 4 3 -1 2 z.e");
        // The voids of an earlier check do not count in the next one.
        Probe probe = Probe.of("2 d.e v=spf1 a:x.e mx:y.e all");
        checks(probe, "1.1.1.1", "d.e", "2 2 2 2 1 y.e");
        checks(probe, "1.1.1.1", "d.e", "2 2 2 2 1 y.e");
        // Rows with another address, or of another type, are told apart.
        checks(Probe.of("2 d.e v=spf1 a:x.e a:y.e a:z.e -all", "0 x.e 2.2.2.2", "0 y.e 2.2.2.2", "0 z.e 2.2.2.2"),
            "1.1.1.1", "d.e", "3 3 0 3 1 z.e");
        checks(Probe.of("2 d.e v=spf1 a:x.e -all", "1 x.e y.e", "2 x.e y", "4 x.e"), "1.1.1.1", "d.e", "3 1 1 1 1 x.e");
    }

    private static void brokenNames() {
        checks(Probe.of("2 d.e v=spf1 all", "3 d.e"), "1.1.1.1", "d.e", "5 0 0 -1 1 d.e");
        checks(Probe.of("3 d.e", "2 d.e v=spf1 all", "2 d.e v=spf1 all"), "1.1.1.1", "d.e", "5 0 0 -1 1 d.e");
        checks(Probe.of("2 d.e v=spf1 a:x.e all", "0 x.e 1.1.1.1", "3 x.e"), "1.1.1.1", "d.e", "5 1 0 -1 1 x.e");
        checks(Probe.of("2 d.e v=spf1 exists:x.e all", "3 x.e"), "1.1.1.1", "d.e", "5 1 0 -1 1 x.e");
        checks(Probe.of("2 d.e v=spf1 mx:x.e all", "3 x.e"), "1.1.1.1", "d.e", "5 1 0 -1 1 x.e");
        checks(Probe.of("2 d.e v=spf1 mx all", "1 d.e x.e", "3 x.e"), "1.1.1.1", "d.e", "5 1 0 -1 1 x.e");
        checks(Probe.of("2 d.e v=spf1 mx all", "1 d.e h.e", "1 d.e x.e", "3 x.e", "0 h.e 1.1.1.1"), "1.1.1.1", "d.e", "2 1 0 0 1 h.e");
        checks(Probe.of("2 d.e v=spf1 all", "3 e", "3 x.d.e"), "1.1.1.1", "d.e", "2 0 0 0 1 d.e");
    }

    private static void latestAndAsked() {
        Probe probe = Probe.of("2 d.e v=spf1 x=y ?ip4:9.9.9.9 z= a:host.e -all");
        checks(probe, "1.1.1.1", "d.e", "3 1 1 2 1 host.e");
        int[] none = {-1, 5, 6, Integer.MIN_VALUE, Integer.MAX_VALUE};
        for (int w : none) {
            Probe.due("latest(" + w + ")", probe.guard().latest(w), -1);
        }
        Probe.due("asked(-1)", probe.guard().asked(-1), 6);
        Probe.due("asked(0)", probe.guard().asked(0), (int) 'h');
        Probe.due("asked(5)", probe.guard().asked(5), (int) 'e');
        int[] beyond = {-2, 6, 7, Integer.MIN_VALUE, Integer.MAX_VALUE};
        for (int i : beyond) {
            Probe.due("asked(" + i + ")", probe.guard().asked(i), -1);
        }
        // The latest check alone counts, also where it asked for nothing.
        checks(probe, "1.1.1.1", "com", "0 0 0 -1 1 ");
        Probe.due("asked(-1)", probe.guard().asked(-1), -1);
        Probe.due("asked(0)", probe.guard().asked(0), -1);
        checks(probe, "9.9.9.9", "d.e", "1 0 0 0 1 d.e");
        probe.guard().drop(0);
        Probe.due("latest after drop", probe.latest() + " " + probe.asked(), "1 0 0 0 1 d.e");
    }
}
