/** The boundary cases of a check's going through its terms, and of what is told of it: promises 7 to 9. */
public final class LimitEdgeTest {
    private static final int[] FAR = {Integer.MIN_VALUE, Integer.MIN_VALUE + 1, -256, 256, Integer.MAX_VALUE - 1, Integer.MAX_VALUE};

    public static void main(String[] args) {
        oneLabel();
        brokenNames();
        tenthLookup();
        eleventhLookup();
        termsThatCostNoLookup();
        lookupsOfNoName();
        lookupsInAll();
        tenChecksInside();
        secondVoid();
        thirdVoid();
        voidsInAll();
        askingThatIsNeverVoid();
        tenMails();
        mailsUntilOneMatches();
        resultsOfIncludes();
        resultsOfRedirects();
        firstOneThatMatches();
        refusedChecks();
        latestOfEach();
        askedOfEach();
        lastCalls();
        Probe.end();
    }

    private static void oneLabel() {
        Probe.sentence("with one label it is 0");
        Probe.of("2 d v=spf1 all", "3 d").checks("1.2.3.4", "d", "0 0 0 -1 1 ");
        Probe.of("2 d.e v=spf1 all").checks("1.2.3.4", "d.e", "2 0 0 0 1 d.e");
        new Probe().checks("1.2.3.4", "abcdefghijklmnop", "0 0 0 -1 1 ");
        new Probe().checks("1.2.3.4", "a.b", "0 0 0 -1 1 a.b");
        Probe.of("2 d.e v=spf1 ?include:d all", "2 d v=spf1 all").checks("1.2.3.4", "d.e", "6 1 0 -1 2 d.e");
        Probe.of("2 d.e v=spf1 redirect=d", "2 d v=spf1 all").checks("1.2.3.4", "d.e", "6 1 0 -1 2 d.e");
        // It may be asked for by the other mechanisms.
        Probe.of("2 d.e v=spf1 a:d", "0 d 1.2.3.4").checks("1.2.3.4", "d.e", "2 1 0 0 1 d");
    }

    private static void brokenNames() {
        Probe.sentence("if there is a BROKEN row with the name, it is ERROR 5 instead");
        String[] asking = {"a:x.e", "mx:x.e", "exists:x.e", "include:x.e", "redirect=x.e", "mx:m.e"};
        for (String term : asking) {
            int checks = term.startsWith("include") || term.startsWith("redirect") ? 2 : 1;
            String record = "2 d.e v=spf1 " + term;
            String[] rows = {record, "0 x.e 1.2.3.4", "1 x.e h.e", "2 x.e v=spf1 all", "1 m.e x.e", "0 h.e 1.2.3.4"};
            Probe sound = Probe.of(rows);
            Probe.due("check by " + term, sound.check("1.2.3.4", "d.e"), 2);
            // Behind all others, and ahead of them.
            Probe.due("row(3)", sound.row(3, "x.e"), 7);
            sound.checks("1.2.3.4", "d.e", "5 1 0 -1 " + checks + " x.e");
            Probe.of("3 x.e", record, "1 m.e x.e").checks("1.2.3.4", "d.e", "5 1 0 -1 " + checks + " x.e");
            Probe.of("3 xx.e", "3 x", "3 x.ee", "3 e", "3 a.x.e", record, rows[1], rows[2], rows[3], rows[4], rows[5])
                .checks("1.2.3.4", "d.e", sound(term));
        }
        Probe.of("2 d.e v=spf1 all", "2 d.e v=spf1 all", "3 d.e").checks("1.2.3.4", "d.e", "5 0 0 -1 1 d.e");
    }

    private static String sound(String term) {
        switch (term) {
            case "mx:x.e":
                return "2 1 0 0 1 h.e";
            case "include:x.e":
                return "2 1 0 0 2 x.e";
            case "redirect=x.e":
                return "2 1 0 -1 2 x.e";
            default:
                return "2 1 0 0 1 x.e";
        }
    }

    /** A record of lookups that find a row and do not match, and what stands behind them. */
    private static Probe lookups(int count, String behind) {
        return Probe.of("2 d.e v=spf1" + " a:h.e".repeat(count) + " " + behind, "0 h.e 9.9.9.9", "1 m.e h.e", "2 i.e v=spf1 ~all", "0 x.e 1.2.3.4",
            "3 b.e");
    }

    private static void tenthLookup() {
        Probe.sentence("with redirect below at most 10 in all");
        lookups(9, "a:h.e -all").checks("1.2.3.4", "d.e", "3 10 0 10 1 h.e");
        lookups(9, "a -all").checks("1.2.3.4", "d.e", "3 10 1 10 1 d.e");
        lookups(9, "mx:m.e -all").checks("1.2.3.4", "d.e", "3 10 0 10 1 h.e");
        lookups(9, "exists:v.e -all").checks("1.2.3.4", "d.e", "3 10 1 10 1 v.e");
        lookups(9, "include:i.e -all").checks("1.2.3.4", "d.e", "3 10 0 10 2 i.e");
        lookups(9, "redirect=i.e").checks("1.2.3.4", "d.e", "4 10 0 -1 2 i.e");
        lookups(9, "a:x.e").checks("1.2.3.4", "d.e", "2 10 0 9 1 x.e");
        lookups(9, "exists:x.e").checks("1.2.3.4", "d.e", "2 10 0 9 1 x.e");
        lookups(9, "a:b.e").checks("1.2.3.4", "d.e", "5 10 0 -1 1 b.e");
        lookups(10, "").checks("1.2.3.4", "d.e", "1 10 0 -1 1 h.e");
    }

    private static void eleventhLookup() {
        Probe.sentence("ERROR 6 before the eleventh");
        // Nothing is asked by it: neither a BROKEN row nor one that matches is met.
        String[] terms = {"a:h.e", "a", "a:x.e", "a:b.e", "mx", "mx:m.e", "exists:v.e", "exists:x.e", "include:i.e", "redirect=i.e", "redirect=b.e",
            "a:!", "include:!", "redirect=!", "a:v.e all"};
        for (String term : terms) {
            lookups(10, term).checks("1.2.3.4", "d.e", "6 10 0 -1 1 h.e");
        }
        lookups(11, "all").checks("1.2.3.4", "d.e", "6 10 0 -1 1 h.e");
        lookups(10, "redirect=i.e all").checks("1.2.3.4", "d.e", "2 10 0 10 1 h.e");
    }

    private static void termsThatCostNoLookup() {
        Probe.sentence("The others each cost a LOOKUP");
        lookups(10, "ip4:1.2.3.4").checks("1.2.3.4", "d.e", "2 10 0 10 1 h.e");
        lookups(10, "x=y all").checks("1.2.3.4", "d.e", "2 10 0 10 1 h.e");
        Probe.of("2 d.e v=spf1" + " ip4:9.9.9.9".repeat(6) + " x=y all").checks("1.2.3.4", "d.e", "2 0 0 6 1 d.e");
        Probe.of("2 d.e v=spf1 all a a a a a a a a a a a").checks("1.2.3.4", "d.e", "2 0 0 0 1 d.e");
    }

    private static void lookupsOfNoName() {
        Probe.sentence("If the name expanded is no NAME, nothing is asked, and it does not match.");
        String ten = " a:! mx:!".repeat(4) + " exists:! a:!/0";
        Probe.of("2 d.e v=spf1" + ten + " -all").checks("1.2.3.4", "d.e", "3 10 0 10 1 d.e");
        Probe.of("2 d.e v=spf1" + ten + " a:! -all").checks("1.2.3.4", "d.e", "6 10 0 -1 1 d.e");
        Probe.of("2 d.e v=spf1" + ten + " redirect=x.e").checks("1.2.3.4", "d.e", "6 10 0 -1 1 d.e");
        String domain = "abcdefgh.ijk";
        String[] kinds = {"a", "mx", "exists"};
        for (String kind : kinds) {
            String four = "2 " + domain + " v=spf1 " + kind + ":" + "%{d}".repeat(4);
            Probe.of(four).checks("1.2.3.4", domain, "1 1 1 -1 1 " + domain.repeat(4));
            Probe.of(four + "x").checks("1.2.3.4", domain, "1 1 0 -1 1 " + domain);
            Probe.of(four + "%{d}".repeat(8)).checks("1.2.3.4", domain, "1 1 0 -1 1 " + domain);
        }
        Probe.of("2 " + domain + " v=spf1 include:" + "%{d}".repeat(4)).checks("1.2.3.4", domain, "6 1 0 -1 2 " + domain.repeat(4));
        Probe.of("2 " + domain + " v=spf1 include:" + "%{d}".repeat(4) + "x").checks("1.2.3.4", domain, "6 1 0 -1 1 " + domain);
        Probe.of("2 " + domain + " v=spf1 redirect=" + "%{d}".repeat(4)).checks("1.2.3.4", domain, "6 1 0 -1 2 " + domain.repeat(4));
        Probe.of("2 " + domain + " v=spf1 redirect=" + "%{d}".repeat(4) + "x").checks("1.2.3.4", domain, "6 1 0 -1 1 " + domain);
    }

    private static void lookupsInAll() {
        Probe.sentence("at most 10 in all");
        for (int inner = 0; inner <= 9; inner++) {
            String[] rows = {"2 d.e v=spf1 include:i.e" + " a:h.e".repeat(9 - inner) + " -all", "0 h.e 9.9.9.9", "2 i.e v=spf1" + " a:h.e".repeat(inner)};
            Probe.of(rows).checks("1.2.3.4", "d.e", "3 10 0 " + (10 - inner) + " 2 h.e");
            rows[2] += " a:h.e";
            Probe.of(rows).checks("1.2.3.4", "d.e", "6 10 0 -1 2 h.e");
            rows[0] = "2 d.e v=spf1" + " a:h.e".repeat(9 - inner) + " redirect=i.e";
            Probe.of(rows).checks("1.2.3.4", "d.e", "6 10 0 -1 2 " + (inner == 0 ? "i.e" : "h.e"));
        }
        // Those of an earlier check do not count.
        Probe again = lookups(10, "-all");
        again.checks("1.2.3.4", "d.e", "3 10 0 10 1 h.e");
        again.checks("1.2.3.4", "d.e", "3 10 0 10 1 h.e");
        Probe after = lookups(11, "-all");
        after.checks("1.2.3.4", "d.e", "6 10 0 -1 1 h.e");
        after.checks("1.2.3.4", "i.e", "4 0 0 0 1 i.e");
    }

    /** A chain of records, each of which leads to the next by the term, and the last one's. */
    private static Probe chain(int links, String term, String last) {
        Probe probe = new Probe();
        for (int k = 0; k < links; k++) {
            probe.row(2, "n" + k + ".e v=spf1 " + term + "n" + (k + 1) + ".e");
        }
        probe.row(2, "n" + links + ".e v=spf1 " + last);
        return probe;
    }

    private static void tenChecksInside() {
        Probe.sentence("how many checks there were in it, with the first one");
        for (int links = 1; links <= 10; links++) {
            String told = links + " 0 0 " + (links + 1) + " n" + links + ".e";
            String unmatched = links + " 0 -1 " + (links + 1) + " n" + links + ".e";
            chain(links, "include:", "all").checks("1.2.3.4", "n0.e", "2 " + told);
            chain(links, "include:", "-all").checks("1.2.3.4", "n0.e", "1 " + unmatched);
            chain(links, "redirect=", "-all").checks("1.2.3.4", "n0.e", "3 " + unmatched);
        }
        for (int links = 11; links <= 15; links++) {
            chain(links, "include:", "all").checks("1.2.3.4", "n0.e", "6 10 0 -1 11 n10.e");
            chain(links, "redirect=", "-all").checks("1.2.3.4", "n0.e", "6 10 0 -1 11 n10.e");
        }
        Probe.of("2 d.e v=spf1 include:d.e").checks("1.2.3.4", "d.e", "6 10 0 -1 11 d.e");
        Probe.of("2 d.e v=spf1 redirect=d.e").checks("1.2.3.4", "d.e", "6 10 0 -1 11 d.e");
        Probe.of("2 d.e v=spf1 include:x.e", "2 x.e v=spf1 redirect=d.e").checks("1.2.3.4", "d.e", "6 10 0 -1 11 d.e");
        // One that is checked more than once counts each time.
        Probe.of("2 d.e v=spf1" + " include:i.e".repeat(6) + " -all", "2 i.e v=spf1").checks("1.2.3.4", "d.e", "3 6 0 6 7 i.e");
    }

    private static void secondVoid() {
        Probe.sentence("the third VOID in all is ERROR 6: two are none");
        String[] two = {"a:v.e a:w.e", "mx:v.e mx:w.e", "exists:v.e exists:w.e", "a:v.e mx:w.e", "a:w.e/0 a:w.e", "mx:m.e"};
        for (String terms : two) {
            int lookups = terms.equals("mx:m.e") ? 1 : 2;
            Probe.of("2 d.e v=spf1 " + terms + " -all", "1 m.e v.e", "1 m.e w.e").checks("1.2.3.4", "d.e", "3 " + lookups + " 2 " + lookups + " 1 w.e");
        }
    }

    private static void thirdVoid() {
        Probe.sentence("the third VOID in all is ERROR 6; the voids (with the third one)");
        String[] terms = {"a:z.e", "mx:z.e", "exists:z.e", "mx:m.e", "a:z.e/0"};
        for (String term : terms) {
            Probe.of("2 d.e v=spf1 a:v.e mx:w.e " + term + " all", "1 m.e z.e").checks("1.2.3.4", "d.e", "6 3 3 -1 1 z.e");
            Probe.of("2 d.e v=spf1 a:v.e mx:w.e " + term + " redirect=i.e", "1 m.e z.e").checks("1.2.3.4", "d.e", "6 3 3 -1 1 z.e");
        }
        // It ends all: what stands behind it is not asked for.
        Probe.of("2 d.e v=spf1 mx all", "1 d.e v.e", "1 d.e w.e", "1 d.e x.e", "1 d.e b.e", "3 b.e").checks("1.2.3.4", "d.e", "6 1 3 -1 1 x.e");
        Probe.of("2 d.e v=spf1 mx all", "1 d.e v.e", "1 d.e w.e", "1 d.e h.e", "1 d.e x.e", "0 h.e 1.2.3.4").checks("1.2.3.4", "d.e", "2 1 2 0 1 h.e");
    }

    private static void voidsInAll() {
        Probe.sentence("the third VOID in all");
        Probe.of("2 d.e v=spf1 a:v.e include:i.e -all", "2 i.e v=spf1 a:w.e").checks("1.2.3.4", "d.e", "3 3 2 2 2 w.e");
        Probe.of("2 d.e v=spf1 a:v.e include:i.e -all", "2 i.e v=spf1 a:w.e a:z.e").checks("1.2.3.4", "d.e", "6 4 3 -1 2 z.e");
        Probe.of("2 d.e v=spf1 include:i.e a:z.e -all", "2 i.e v=spf1 a:w.e a:w.e").checks("1.2.3.4", "d.e", "6 4 3 -1 2 z.e");
        Probe.of("2 d.e v=spf1 a:v.e redirect=i.e", "2 i.e v=spf1 a:w.e a:z.e").checks("1.2.3.4", "d.e", "6 4 3 -1 2 z.e");
        Probe again = Probe.of("2 d.e v=spf1 a:v.e a:w.e -all");
        again.checks("1.2.3.4", "d.e", "3 2 2 2 1 w.e");
        again.checks("1.2.3.4", "d.e", "3 2 2 2 1 w.e");
    }

    private static void askingThatIsNeverVoid() {
        Probe.sentence("Asking in these ways that gives no row is VOID");
        String two = "2 d.e v=spf1 a:v.e a:v.e ";
        // Asking for TEXT rows, what is no name, rows with another address, and a BROKEN row.
        Probe.of(two + "include:x.e").checks("1.2.3.4", "d.e", "6 3 2 -1 2 x.e");
        Probe.of(two + "redirect=x.e").checks("1.2.3.4", "d.e", "6 3 2 -1 2 x.e");
        Probe.of(two + "a:! mx:! exists:! -all").checks("1.2.3.4", "d.e", "3 5 2 5 1 v.e");
        Probe.of(two + "a:h.e -all", "0 h.e 9.9.9.9").checks("1.2.3.4", "d.e", "3 3 2 3 1 h.e");
        Probe.of(two + "mx:m.e -all", "1 m.e h.e", "0 h.e 9.9.9.9").checks("1.2.3.4", "d.e", "3 3 2 3 1 h.e");
        Probe.of(two + "a:b.e -all", "3 b.e").checks("1.2.3.4", "d.e", "5 3 2 -1 1 b.e");
        // Rows of another type are none.
        Probe.of("2 d.e v=spf1 a:x.e exists:x.e -all", "1 x.e y.e", "2 x.e y", "4 x.e").checks("1.2.3.4", "d.e", "3 2 2 2 1 x.e");
        Probe.of("2 d.e v=spf1 mx:x.e -all", "0 x.e 1.2.3.4", "2 x.e y", "4 x.e").checks("1.2.3.4", "d.e", "3 1 1 1 1 x.e");
        Probe policy = Probe.of("2 d.e v=spf1 a:v.e a:w.e -all");
        policy.check("1.2.3.4", "d.e");
        policy.policy(0, "x.d.e");
        Probe.due("latest after a policy", policy.latest(), "3 2 2 2 1");
    }

    /** MAIL rows of d.e of which the one at place k has its own host. */
    private static Probe mails(int count, int k, String host) {
        Probe probe = Probe.of("2 d.e v=spf1 mx ~all", "0 h.e 9.9.9.9");
        for (int place = 1; place <= count; place++) {
            probe.row(1, "d.e " + (place == k ? "x.e" : "h.e"));
        }
        probe.row(host.isEmpty() ? 3 : 0, "x.e" + host);
        return probe;
    }

    private static void tenMails() {
        Probe.sentence("for each of the first ten ask for the HOST rows of its data");
        for (int place = 1; place <= 10; place++) {
            mails(13, place, " 1.2.3.4").checks("1.2.3.4", "d.e", "2 1 0 0 1 x.e");
            mails(13, place, "").checks("1.2.3.4", "d.e", "5 1 0 -1 1 x.e");
        }
        for (int place = 11; place <= 13; place++) {
            mails(13, place, " 1.2.3.4").checks("1.2.3.4", "d.e", "4 1 0 1 1 h.e");
            mails(13, place, "").checks("1.2.3.4", "d.e", "4 1 0 1 1 h.e");
        }
        // Each mx has ten of its own.
        Probe twice = Probe.of("2 d.e v=spf1 mx mx:m.e ~all", "0 h.e 9.9.9.9", "0 x.e 1.2.3.4", "1 m.e x.e");
        for (int k = 0; k < 12; k++) {
            twice.row(1, "d.e h.e");
        }
        twice.checks("1.2.3.4", "d.e", "2 2 0 1 1 x.e");
        // Voids behind the tenth are none.
        Probe voids = Probe.of("2 d.e v=spf1 mx ~all", "0 h.e 9.9.9.9");
        for (int k = 0; k < 14; k++) {
            voids.row(1, "d.e " + (k < 8 ? "h.e" : "v.e"));
        }
        voids.checks("1.2.3.4", "d.e", "4 1 2 1 1 v.e");
    }

    private static void mailsUntilOneMatches() {
        Probe.sentence("as a does, until one matches");
        Probe.of("2 d.e v=spf1 mx", "1 d.e h.e", "1 d.e x.e", "1 d.e b.e", "0 h.e 9.9.9.9", "0 x.e 9.9.9.8", "0 x.e 1.2.3.4", "3 b.e")
            .checks("1.2.3.4", "d.e", "2 1 0 0 1 x.e");
        Probe.of("2 d.e v=spf1 mx/8", "1 d.e h.e", "1 d.e b.e", "0 h.e 1.9.9.9", "3 b.e").checks("1.2.3.4", "d.e", "2 1 0 0 1 h.e");
    }

    private static void resultsOfIncludes() {
        Probe.sentence("2 matches, 1, 3 and 4 do not match, 0 is ERROR 6");
        String[] inner = {"all", "?all", "-all", "~all", "", "redirect=y.e"};
        for (int k = 0; k < inner.length; k++) {
            int lookups = k == 5 ? 2 : 1;
            String want = k == 0 ? "4 1 0 1 2 x.e" : k == 5 ? "3 2 0 2 3 y.e" : "3 " + lookups + " 0 2 2 x.e";
            Probe.of("2 d.e v=spf1 ip4:9.9.9.9 ~include:x.e -all", "2 x.e v=spf1 " + inner[k], "2 y.e v=spf1 ~all").checks("1.2.3.4", "d.e", want);
        }
        String record = "2 d.e v=spf1 ip4:9.9.9.9 ~include:x.e -all";
        Probe.of(record).checks("1.2.3.4", "d.e", "6 1 0 -1 2 x.e");
        Probe.of(record, "2 x.e v=spf10").checks("1.2.3.4", "d.e", "6 1 0 -1 2 x.e");
        Probe.of(record, "2 x.e v=spf1", "2 x.e v=spf1").checks("1.2.3.4", "d.e", "6 1 0 -1 2 x.e");
        Probe.of(record, "3 x.e").checks("1.2.3.4", "d.e", "5 1 0 -1 2 x.e");
    }

    private static void resultsOfRedirects() {
        Probe.sentence("its result, but 0 is ERROR 6. Without redirect it is 1.");
        String[] inner = {"all", "?all", "-all", "~all", ""};
        int[] results = {2, 1, 3, 4, 1};
        for (int k = 0; k < inner.length; k++) {
            Probe.of("2 d.e v=spf1 redirect=x.e ip4:9.9.9.9", "2 x.e v=spf1 " + inner[k]).checks("1.2.3.4", "d.e", results[k] + " 1 0 -1 2 x.e");
            Probe.of("2 d.e v=spf1 redirect=x.e ?ip4:1.2.3.4", "2 x.e v=spf1 " + inner[k]).checks("1.2.3.4", "d.e", "1 0 0 0 1 d.e");
        }
        Probe.of("2 d.e v=spf1 redirect=x.e").checks("1.2.3.4", "d.e", "6 1 0 -1 2 x.e");
        Probe.of("2 d.e v=spf1 redirect=x.e", "2 x.e y").checks("1.2.3.4", "d.e", "6 1 0 -1 2 x.e");
        Probe.of("2 d.e v=spf1 redirect=x.e", "3 x.e").checks("1.2.3.4", "d.e", "5 1 0 -1 2 x.e");
        Probe.of("2 d.e v=spf1").checks("1.2.3.4", "d.e", "1 0 0 -1 1 d.e");
        Probe.of("2 d.e v=spf1 -ip4:9.9.9.9 x=y").checks("1.2.3.4", "d.e", "1 0 0 -1 1 d.e");
    }

    private static void firstOneThatMatches() {
        Probe.sentence("The mechanisms are gone through in order until one MATCHES");
        for (int ahead = 0; ahead <= 5; ahead++) {
            Probe.of("2 d.e v=spf1" + " ip4:9.9.9.9".repeat(ahead) + " ~ip4:1.2.3.4 -all a:b.e", "3 b.e").checks("1.2.3.4", "d.e", "4 0 0 " + ahead + " 1 d.e");
        }
        // The most mechanisms that a text has room for.
        Probe.of("2 d.e v=spf1 a a a a a a a a a a" + " all".repeat(17), "0 d.e 9.9.9.9").checks("1.2.3.4", "d.e", "2 10 0 10 1 d.e");
    }

    private static void refusedChecks() {
        Probe.sentence("IllegalArgumentException if the text is no NAME");
        String[] texts = {"", " ", "d.e ", " d.e", "d..e", "d.e.", ".d.e", "D.e", "x".repeat(17), "x".repeat(100)};
        for (String text : texts) {
            Probe fresh = new Probe().text(text);
            fresh.refuses("check of '" + text + "'", () -> fresh.guard().check(0), Probe.ILLEGAL_ARGUMENT);
            Probe.due("policy behind it", fresh.policy(0, "d.e"), Probe.ILLEGAL_STATE);
            Probe used = Probe.of("2 d.e v=spf1 a:v.e -all");
            used.check("1.2.3.4", "d.e");
            used.text(text);
            used.refuses("check of '" + text + "'", () -> used.guard().check(0), Probe.ILLEGAL_ARGUMENT);
        }
    }

    private static void latestOfEach() {
        Probe.sentence("NONE if there was none, or for any other w");
        Probe probe = Probe.of("2 d.e v=spf1 a:v.e ~all");
        for (int w = -2; w <= 6; w++) {
            Probe.due("latest(" + w + ") of none", probe.guard().latest(w), -1);
        }
        probe.check("1.2.3.4", "d.e");
        int[] want = {-1, -1, 4, 1, 1, 1, 1, -1, -1};
        for (int w = -2; w <= 6; w++) {
            Probe.due("latest(" + w + ")", probe.guard().latest(w), want[w + 2]);
        }
        for (int w : FAR) {
            Probe.due("latest(" + w + ")", probe.guard().latest(w), -1);
        }
        // The latest one alone, also if it found nothing.
        probe.checks("1.2.3.4", "x.e", "0 0 0 -1 1 x.e");
        probe.checks("1.2.3.4", "e", "0 0 0 -1 1 ");
    }

    private static void askedOfEach() {
        Probe.sentence("how many characters it has, if i is -1, or the code of character i; NONE if there is none such");
        String[] names = {"a.b", "abcdefghijklmnop.b", "abcdefghijklmnop.abcdefghijklmnop.abcdefghijklmn"};
        for (String name : names) {
            Probe probe = new Probe();
            probe.check("1.2.3.4", name);
            Probe.due("asked(-1)", probe.guard().asked(-1), name.length());
            for (int i = 0; i < name.length(); i++) {
                Probe.due("asked(" + i + ")", probe.guard().asked(i), (int) name.charAt(i));
            }
            int[] none = {-2, -3, name.length(), name.length() + 1, 48, 54, 55, 100};
            for (int i : none) {
                Probe.due("asked(" + i + ")", probe.guard().asked(i), -1);
            }
            for (int i : FAR) {
                Probe.due("asked(" + i + ")", probe.guard().asked(i), -1);
            }
            // A check that asks for nothing leaves none.
            probe.check("1.2.3.4", "com");
            for (int i = -2; i <= 3; i++) {
                Probe.due("asked(" + i + ") of none", probe.guard().asked(i), -1);
            }
        }
    }

    private static void lastCalls() {
        Probe.sentence("An object is used for at most 512 calls");
        Probe probe = Probe.of("2 d.e v=spf1 include:i.e -all", "2 i.e v=spf1 a a:w.e", "2 _dmarc.d.e v=DMARC1;p=reject", "0 i.e 9.9.9.9");
        for (int k = 0; probe.calls() <= 512 - 8; k++) {
            Probe.due("check " + k, probe.check("1.2.3.4", "d.e"), 3);
            Probe.due("policy " + k, probe.policy(0, "d.e"), 4);
        }
        while (probe.calls() < 512 - 3) {
            probe.guard().wipe();
        }
        probe.guard().type(Probe.part("d.e"));
        Probe.due("the 511th call", Probe.caught(() -> probe.guard().check(0)), 3);
        Probe.due("the 512th call", probe.guard().latest(1), 3);
        Probe.due("calls", probe.calls(), 512);
    }
}
