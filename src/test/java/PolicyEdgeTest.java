/** The boundary cases of a policy, its tags, ORGANISATIONs, pct and chance: promise 10. */
public final class PolicyEdgeTest {
    private static final String L16 = "abcdefghijklmnop";
    private static final String NAME_48 = L16 + "." + L16 + ".abcdefghijk.mn";
    private static final String LETTERS = "abcdefghijklmnopqrstuvwxyz";

    public static void main(String[] args) {
        chancesThatAreAllowed();
        chancesThatAreNone();
        nothingChecked();
        textsThatAreNoName();
        namesLongerThanAName();
        marks();
        anyNumberOfTags();
        blanksRoundTags();
        namesOfTags();
        valuesOfTags();
        firstOfMoreTags();
        actions();
        actionsBelow();
        alignments();
        percents();
        chanceAgainstPercent();
        oneLessAboveTwoAlone();
        singlePolicies();
        organisationThatIsAnother();
        longestSuffix();
        suffixBehindAPoint();
        organisationsWithoutSuffix();
        organisationsByTheTable();
        alignedByResult();
        alignedByName();
        brokenNames();
        policyLeavesTheCheck();
        Probe.end();
    }

    /** A table after a check of d.e, which does not pass. */
    private static Probe table(String... rows) {
        Probe probe = Probe.of(rows);
        probe.check("1.2.3.4", "d.e");
        return probe;
    }

    /** What the data lead to at the name itself, without a check that passes: 0 if they are no policy. */
    private static void data(String data, int want) {
        table("2 _dmarc.d.e " + data).says(0, "d.e", want, "_dmarc.d.e");
    }

    private static void policy(String data, boolean allowed) {
        data(data, allowed ? 4 : 0);
    }

    private static void chancesThatAreAllowed() {
        Probe.sentence("chance is 0 .. 99");
        for (int chance = 0; chance <= 99; chance++) {
            table("2 _dmarc.d.e v=DMARC1;p=reject;pct=100").says(chance, "d.e", 4, "_dmarc.d.e");
        }
    }

    private static void chancesThatAreNone() {
        Probe.sentence("IllegalArgumentException if chance not so");
        int[] none = {-1, -2, 100, 101, 256, -256, Integer.MIN_VALUE, Integer.MAX_VALUE};
        for (int chance : none) {
            Probe probe = table("2 _dmarc.d.e v=DMARC1;p=reject").text("d.e");
            probe.refuses("policy(" + chance + ")", () -> probe.guard().policy(chance), Probe.ILLEGAL_ARGUMENT);
            Probe fresh = new Probe().text("d.e");
            fresh.refuses("policy(" + chance + ")", () -> fresh.guard().policy(chance), Probe.ILLEGAL_ARGUMENT);
            // The text that was not taken is still there.
            Probe.due("policy(99) behind it", probe.guard().policy(99), 4);
        }
    }

    private static void nothingChecked() {
        Probe.sentence("IllegalStateException if nothing was checked");
        Probe probe = Probe.of("2 _dmarc.d.e v=DMARC1;p=reject", "2 d.e v=spf1").text("d.e");
        probe.refuses("policy(0)", () -> probe.guard().policy(0), Probe.ILLEGAL_STATE);
        probe.refuses("policy(99)", () -> probe.guard().policy(99), Probe.ILLEGAL_STATE);
        // A check that is refused is none.
        probe.text("d..e");
        probe.refuses("check", () -> probe.guard().check(0), Probe.ILLEGAL_ARGUMENT);
        probe.text("d.e");
        probe.refuses("policy(0)", () -> probe.guard().policy(0), Probe.ILLEGAL_STATE);
        Probe.due("check", probe.guard().check(0), 1);
        probe.says(0, "d.e", 4, "_dmarc.d.e");
        // Any check will do, also one that found nothing or ended with an error.
        Probe none = Probe.of("2 _dmarc.d.e v=DMARC1;p=reject", "3 b.e");
        none.checks("1.2.3.4", "e", "0 0 0 -1 1 ");
        none.says(0, "d.e", 4, "_dmarc.d.e");
        none.checks("1.2.3.4", "b.e", "5 0 0 -1 1 b.e");
        none.says(0, "d.e", 4, "_dmarc.d.e");
    }

    private static void textsThatAreNoName() {
        Probe.sentence("IllegalArgumentException if the text is no NAME");
        String[] texts = {"", " ", "d.e ", " d.e", "d..e", "d.e.", ".d.e", "D.e", L16 + "q.e", NAME_48 + "x", "d.e x"};
        for (String text : texts) {
            Probe used = table("2 _dmarc.d.e v=DMARC1;p=reject").text(text);
            used.refuses("policy of '" + text + "'", () -> used.guard().policy(0), Probe.ILLEGAL_ARGUMENT);
            Probe fresh = new Probe().text(text);
            fresh.refuses("policy of '" + text + "'", () -> fresh.guard().policy(0), Probe.ILLEGAL_ARGUMENT);
        }
    }

    private static void namesLongerThanAName() {
        Probe.sentence("(Those names may be longer than a NAME.)");
        Probe probe = table("4 " + NAME_48);
        probe.says(0, NAME_48, 0, "_dmarc." + NAME_48);
        Probe.due("asked(-1)", probe.guard().asked(-1), 55);
        Probe.due("asked(54)", probe.guard().asked(54), (int) 'n');
        Probe.due("asked(55)", probe.guard().asked(55), -1);
        // With 41 characters there is room for a row of its own, with 42 there is none.
        String fits = NAME_48.substring(7);
        String tooLong = NAME_48.substring(6);
        Probe.due("length", fits.length(), 41);
        table("2 _dmarc." + fits + " v=DMARC1;p=reject").says(0, fits, 4, "_dmarc." + fits);
        Probe longer = table("2 _dmarc.abcdefghijk.mn v=DMARC1;p=reject;sp=none").text("_dmarc." + tooLong + " v=DMARC1;p=reject");
        longer.refuses("row(2)", () -> longer.guard().row(2), Probe.ILLEGAL_ARGUMENT);
        longer.says(0, tooLong, 2, "_dmarc.abcdefghijk.mn");
        // The rows of a name that it begins or ends with are not its own.
        table("4 " + NAME_48, "2 " + NAME_48 + " v=DMARC1;p=reject").says(0, NAME_48, 0, "_dmarc." + NAME_48);
    }

    private static void marks() {
        Probe.sentence("v=DMARC1, then any number of: ; ..");
        policy("v=DMARC1;p=reject", true);
        String mark = "v=DMARC1";
        for (char c = 32; c <= 126; c++) {
            policy("v=DMARC1" + c, false);
            policy("v=DMARC1" + c + "p=reject", c == ';');
            policy(c + "v=DMARC1;p=reject", false);
            for (int place = 0; place < mark.length(); place++) {
                policy(mark.substring(0, place) + c + mark.substring(place + 1) + ";p=reject", c == mark.charAt(place));
            }
        }
        for (int length = 1; length < mark.length(); length++) {
            policy(mark.substring(0, length), false);
            policy(mark.substring(0, length) + ";p=reject", false);
        }
        policy(";p=reject", false);
        policy("p=reject", false);
        policy("p=reject;v=DMARC1", false);
    }

    private static void anyNumberOfTags() {
        Probe.sentence("any number of: ; , blanks, a TAG, blanks; or ; and blanks alone");
        policy("v=DMARC1", false);
        for (int count = 0; count <= 12; count++) {
            policy("v=DMARC1" + ";x=y".repeat(count), false);
            policy("v=DMARC1" + ";x=y".repeat(count) + ";p=reject", true);
            policy("v=DMARC1;p=reject" + ";x=y".repeat(count), true);
            policy("v=DMARC1" + ";".repeat(count), false);
            policy("v=DMARC1;" + ";".repeat(count) + "p=reject", true);
            policy("v=DMARC1;p=reject" + ";".repeat(count), true);
            policy("v=DMARC1;p=reject" + "; ".repeat(count), true);
        }
        policy("v=DMARC1;p=rejectx=y", false);
        policy("v=DMARC1;p=reject x=y", false);
        policy("v=DMARC1;p=reject,x=y", false);
        // The longest that a text has room for beside the name.
        policy("v=DMARC1;p=reject" + ";".repeat(72), true);
        policy("v=DMARC1;" + " ".repeat(72) + "p=reject", true);
        policy("v=DMARC1;p=reject;x=" + "y".repeat(69), true);
        policy("v=DMARC1;p=reject;x=" + "y".repeat(67) + ";x", false);
    }

    private static void blanksRoundTags() {
        Probe.sentence("; , blanks, a TAG, blanks");
        for (int blanks = 0; blanks <= 5; blanks++) {
            String some = " ".repeat(blanks);
            policy("v=DMARC1;" + some + "p=reject", true);
            policy("v=DMARC1;p=reject" + some, true);
            policy("v=DMARC1;p=reject;" + some, true);
            policy("v=DMARC1;" + some + ";p=reject", true);
            policy("v=DMARC1;" + some + "p=reject" + some + ";" + some + "x=y" + some + ";" + some, true);
            policy("v=DMARC1" + some + ";p=reject", blanks == 0);
            policy("v=DMARC1;p" + some + "=reject", blanks == 0);
            policy("v=DMARC1;p=" + some + "reject", blanks == 0);
            policy("v=DMARC1;p=rej" + some + "ect", blanks == 0);
            policy("v=DMARC1;p=reject;x=y" + some + "z", blanks == 0);
        }
    }

    private static void namesOfTags() {
        Probe.sentence("A TAG is one or more a .. z, =");
        policy("v=DMARC1;p=reject;=y", false);
        policy("v=DMARC1;p=reject;=", false);
        policy("v=DMARC1;p=reject;x", false);
        policy("v=DMARC1;p=reject;" + LETTERS + "=y", true);
        for (char c = 33; c <= 126; c++) {
            boolean letter = LETTERS.indexOf(c) >= 0;
            // Another p counts for nothing.
            policy("v=DMARC1;p=reject;" + c + "=y", letter);
            policy("v=DMARC1;p=reject;x" + c + "y=z", letter || c == '=');
            policy("v=DMARC1;p=reject;x" + c + "=z", letter || c == '=');
            policy("v=DMARC1;p=reject;" + c + "x=z", letter || c == ';');
        }
        policy("v=DMARC1;pp=reject", false);
        policy("v=DMARC1;P=reject", false);
        policy("v=DMARC1;p=reject;spp=x;as=x;aspff=x;pc=x;pctt=x;s=x", true);
    }

    private static void valuesOfTags() {
        Probe.sentence("and one or more characters that are no blanks and no ;");
        policy("v=DMARC1;p=reject;x=", false);
        policy("v=DMARC1;p=reject;x=;", false);
        policy("v=DMARC1;x=;p=reject", false);
        policy("v=DMARC1;x= ;p=reject", false);
        for (char c = 32; c <= 126; c++) {
            boolean some = c != ' ' && c != ';';
            policy("v=DMARC1;p=reject;x=" + c, some);
            policy("v=DMARC1;p=reject;x=y" + c + "z", some);
            policy("v=DMARC1;x=" + c + ";p=reject", some);
            // Behind the value a blank or a ; may stand.
            policy("v=DMARC1;p=reject;x=y" + c, true);
        }
    }

    private static void firstOfMoreTags() {
        Probe.sentence("Of more tags of one name the first counts.");
        data("v=DMARC1;p=none;p=reject", 2);
        data("v=DMARC1;p=reject;p=none", 4);
        data("v=DMARC1;p=reject;p=x", 4);
        data("v=DMARC1;p=x;p=reject", 0);
        data("v=DMARC1;p=reject;sp=none;sp=x", 4);
        data("v=DMARC1;p=reject;sp=x;sp=none", 0);
        data("v=DMARC1;p=reject;aspf=s;aspf=x", 4);
        data("v=DMARC1;p=reject;aspf=x;aspf=s", 0);
        data("v=DMARC1;p=reject;pct=0;pct=100", 3);
        data("v=DMARC1;p=reject;pct=100;pct=0", 4);
        data("v=DMARC1;p=reject;pct=0;pct=x", 3);
        data("v=DMARC1;p=reject;pct=x;pct=0", 0);
        data("v=DMARC1;pct=0;p=quarantine;sp=none;p=reject;pct=100", 2);
        table("2 _dmarc.d.e v=DMARC1;p=none;sp=reject;sp=none").says(0, "x.d.e", 4, "_dmarc.d.e");
        Probe strict = table("2 x.d.e v=spf1 all", "2 _dmarc.d.e v=DMARC1;p=reject;aspf=s;aspf=r");
        strict.check("1.2.3.4", "x.d.e");
        strict.says(0, "d.e", 4, "_dmarc.d.e");
    }

    private static void actions() {
        Probe.sentence("p must be none, quarantine or reject");
        data("v=DMARC1;p=none", 2);
        data("v=DMARC1;p=quarantine", 3);
        data("v=DMARC1;p=reject", 4);
        String[] none = {"non", "nonee", "None", "quarantin", "quarantines", "Quarantine", "rejec", "rejects", "REJECT", "x", "0", "2", "=none", "none,"};
        for (String value : none) {
            data("v=DMARC1;p=" + value, 0);
        }
        data("v=DMARC1;sp=none", 0);
        data("v=DMARC1;sp=none;aspf=r;pct=100", 0);
    }

    private static void actionsBelow() {
        Probe.sentence("sp too if it is there (the latter is p if it is not there); by sp if it was found at G");
        String[] values = {"none", "quarantine", "reject"};
        for (int p = 0; p < 3; p++) {
            Probe alone = table("2 _dmarc.d.e v=DMARC1;p=" + values[p]);
            alone.says(0, "d.e", p + 2, "_dmarc.d.e");
            alone.says(0, "x.d.e", p + 2, "_dmarc.d.e");
            for (int sp = 0; sp < 3; sp++) {
                Probe both = table("2 _dmarc.d.e v=DMARC1;sp=" + values[sp] + ";p=" + values[p]);
                both.says(0, "d.e", p + 2, "_dmarc.d.e");
                both.says(0, "x.d.e", sp + 2, "_dmarc.d.e");
                both.says(0, "y.x.d.e", sp + 2, "_dmarc.d.e");
                // What is found at a name that is no organisation is by p.
                Probe own = table("2 _dmarc.x.d.e v=DMARC1;p=" + values[p] + ";sp=" + values[sp]);
                own.says(0, "x.d.e", p + 2, "_dmarc.x.d.e");
                own.says(0, "y.x.d.e", 0, "_dmarc.d.e");
            }
        }
        String[] none = {"x", "non", "nonee", "Reject", "r"};
        for (String value : none) {
            data("v=DMARC1;p=reject;sp=" + value, 0);
            data("v=DMARC1;sp=" + value + ";p=reject", 0);
        }
    }

    /** Whether the first domain x.d.e and the name d.e are aligned by the tags. */
    private static void tagsAlign(String tags, int want) {
        Probe probe = Probe.of("2 x.d.e v=spf1 all", "2 _dmarc.d.e v=DMARC1;p=reject" + tags);
        probe.checks("1.2.3.4", "x.d.e", "2 0 0 0 1 x.d.e");
        probe.says(0, "d.e", want, "_dmarc.d.e");
    }

    private static void alignments() {
        Probe.sentence("aspf r or s (r if not there)");
        tagsAlign("", 1);
        tagsAlign(";aspf=r", 1);
        tagsAlign(";aspf=s", 4);
        tagsAlign(";adkim=s", 1);
        for (char c = 33; c <= 126; c++) {
            policy("v=DMARC1;p=reject;aspf=" + c, c == 'r' || c == 's');
            policy("v=DMARC1;p=reject;aspf=r" + c, c == ';');
            policy("v=DMARC1;p=reject;aspf=" + c + "s", false);
        }
    }

    private static void percents() {
        Probe.sentence("pct a number 0 .. 100 without a 0 at its front (but 0 itself; 100 if not there)");
        for (int pct = 0; pct <= 100; pct++) {
            table("2 _dmarc.d.e v=DMARC1;p=reject;pct=" + pct).says(0, "d.e", pct == 0 ? 3 : 4, "_dmarc.d.e");
        }
        String[] none = {"101", "102", "110", "111", "199", "200", "256", "999", "1000", "4294967296", "4294967346", "00", "000", "01", "09", "010",
            "0100", "001", "-0", "-1", "+1", "1.", "1x", "x", "x1", "1e1", "1,0", "50%", "=1"};
        for (String pct : none) {
            policy("v=DMARC1;p=reject;pct=" + pct, false);
            policy("v=DMARC1;pct=" + pct + ";p=reject", false);
        }
        policy("v=DMARC1;p=reject;pct=", false);
        for (int chance = 0; chance <= 99; chance++) {
            table("2 _dmarc.d.e v=DMARC1;p=reject").says(chance, "d.e", 4, "_dmarc.d.e");
        }
    }

    private static void chanceAgainstPercent() {
        Probe.sentence("and 1 less, if chance is not below pct");
        for (int pct = 0; pct <= 100; pct++) {
            Probe probe = table("2 _dmarc.d.e v=DMARC1;p=reject;sp=quarantine;pct=" + pct);
            if (pct > 0) {
                probe.says(pct - 1, "d.e", 4, "_dmarc.d.e");
                probe.says(pct - 1, "x.d.e", 3, "_dmarc.d.e");
                probe.says(0, "d.e", 4, "_dmarc.d.e");
            }
            if (pct < 100) {
                probe.says(pct, "d.e", 3, "_dmarc.d.e");
                probe.says(pct, "x.d.e", 2, "_dmarc.d.e");
                probe.says(99, "d.e", 3, "_dmarc.d.e");
            }
        }
    }

    private static void oneLessAboveTwoAlone() {
        Probe.sentence("1 less, if that is above 2");
        table("2 _dmarc.d.e v=DMARC1;p=none;pct=0").says(99, "d.e", 2, "_dmarc.d.e");
        table("2 _dmarc.d.e v=DMARC1;p=quarantine;pct=0").says(99, "d.e", 2, "_dmarc.d.e");
        table("2 _dmarc.d.e v=DMARC1;p=reject;pct=0").says(99, "d.e", 3, "_dmarc.d.e");
        table("2 _dmarc.d.e v=DMARC1;p=reject;sp=none;pct=0").says(99, "x.d.e", 2, "_dmarc.d.e");
        table("2 d.e v=spf1 all", "2 _dmarc.d.e v=DMARC1;p=reject;pct=0").says(99, "d.e", 1, "_dmarc.d.e");
        table("3 _dmarc.d.e").says(99, "d.e", 5, "_dmarc.d.e");
        table().says(99, "d.e", 0, "_dmarc.d.e");
    }

    private static void singlePolicies() {
        Probe.sentence("if no single one of those counts");
        String own = "2 _dmarc.x.d.e v=DMARC1;p=none";
        String above = "2 _dmarc.d.e v=DMARC1;p=reject";
        String other = "2 _dmarc.x.d.e v=DMARC1;p=x";
        table(above).says(0, "x.d.e", 4, "_dmarc.d.e");
        table(above, own).says(0, "x.d.e", 2, "_dmarc.x.d.e");
        table(above, own, own).says(0, "x.d.e", 4, "_dmarc.d.e");
        table(above, own, own, own).says(0, "x.d.e", 4, "_dmarc.d.e");
        table(above, other, own, other).says(0, "x.d.e", 2, "_dmarc.x.d.e");
        table(above, other).says(0, "x.d.e", 4, "_dmarc.d.e");
        table(above, above).says(0, "x.d.e", 0, "_dmarc.d.e");
        table(above, above).says(0, "d.e", 0, "_dmarc.d.e");
        table(own, own).says(0, "x.d.e", 0, "_dmarc.d.e");
        // A check that passes is not aligned without a policy.
        table("2 d.e v=spf1 all").says(0, "d.e", 0, "_dmarc.d.e");
        table("2 d.e v=spf1 all", above, above).says(0, "d.e", 0, "_dmarc.d.e");
    }

    private static void organisationThatIsAnother() {
        Probe.sentence("and the ORGANISATION G of F is another one");
        String below = "2 _dmarc.e v=DMARC1;p=reject";
        table(below).says(0, "d.e", 0, "_dmarc.d.e");
        table(below).says(0, "e", 4, "_dmarc.e");
        table(below, "4 d.e").says(0, "d.e", 0, "_dmarc.d.e");
        table("2 _dmarc.d.e v=DMARC1;p=reject", "4 d.e").says(0, "x.d.e", 0, "_dmarc.x.d.e");
        table("2 _dmarc.d.e v=DMARC1;p=reject", "4 d.e").says(0, "y.x.d.e", 0, "_dmarc.x.d.e");
    }

    /** Without any policy the last name asked for is that of the organisation. */
    private static void organisation(String name, String want, String... suffixes) {
        String[] rows = new String[suffixes.length];
        for (int k = 0; k < rows.length; k++) {
            rows[k] = "4 " + suffixes[k];
        }
        table(rows).says(0, name, 0, "_dmarc." + want);
    }

    private static void longestSuffix() {
        Probe.sentence("of the SUFFIX rows the longest: the name if it is that; else that with one label more of the name ahead");
        String[] ends = {"f", "e.f", "d.e.f", "c.d.e.f", "b.c.d.e.f", "a.b.c.d.e.f"};
        for (int longest = 0; longest < ends.length; longest++) {
            String want = ends[Math.min(longest + 1, 5)];
            organisation("a.b.c.d.e.f", want, ends[longest]);
            for (int other = 0; other <= longest; other++) {
                organisation("a.b.c.d.e.f", want, ends[longest], ends[other]);
                organisation("a.b.c.d.e.f", want, ends[other], ends[longest]);
            }
        }
        organisation(NAME_48, NAME_48, NAME_48);
        organisation(NAME_48, NAME_48, NAME_48.substring(17));
        organisation(NAME_48, NAME_48.substring(17), NAME_48.substring(34));
        organisation("e", "e", "e");
        organisation("d.e", "d.e", "d.e");
        organisation("d.e", "d.e", "e");
        // In a full table the last row counts as the first does.
        String[] many = new String[16];
        for (int k = 0; k < 16; k++) {
            many[k] = k == 15 ? "d.e.f" : "f";
        }
        organisation("a.b.c.d.e.f", "c.d.e.f", many);
        many[0] = "c.d.e.f";
        organisation("a.b.c.d.e.f", "b.c.d.e.f", many);
    }

    private static void suffixBehindAPoint() {
        Probe.sentence("whose name is the name, or its end behind a .");
        organisation("a.b.cd.ef", "cd.ef", "f");
        organisation("a.b.cd.ef", "cd.ef", "d.ef");
        organisation("a.b.cd.ef", "b.cd.ef", "cd.ef");
        organisation("a.b.cd.ef", "cd.ef", "a.b.cd");
        organisation("a.b.cd.ef", "cd.ef", "z.a.b.cd.ef");
        organisation("a.b.cd.ef", "cd.ef", "za.b.cd.ef");
        organisation("ab", "ab", "b");
        organisation("x.y.ab", "y.ab", "b");
    }

    private static void organisationsWithoutSuffix() {
        Probe.sentence("without one, the last two labels (the name, if it has not more)");
        organisation("f", "f");
        organisation("e.f", "e.f");
        organisation("d.e.f", "e.f");
        organisation("a.b.c.d.e.f", "e.f");
        organisation("a.".repeat(23) + "ab", "a.ab");
        organisation(NAME_48, "abcdefghijk.mn");
        // Only a SUFFIX row is one.
        table("0 e.f 1.2.3.4", "1 e.f x", "2 e.f x", "3 e.f").says(0, "c.d.e.f", 0, "_dmarc.e.f");
    }

    private static void organisationsByTheTable() {
        Probe.sentence("of the SUFFIX rows: those that stand in the table now");
        Probe probe = table();
        probe.says(0, "a.b.c.d", 0, "_dmarc.c.d");
        probe.row(4, "c.d");
        probe.says(0, "a.b.c.d", 0, "_dmarc.b.c.d");
        probe.guard().drop(0);
        probe.says(0, "a.b.c.d", 0, "_dmarc.c.d");
    }

    private static void alignedByResult() {
        Probe.sentence("ALIGNED is it if the result is 2");
        String[] records = {"v=spf1 all", "x", "v=spf1", "v=spf1 -all", "v=spf1 ~all", "v=spf1 x", "v=spf1 a:b.e"};
        for (int k = 0; k < records.length; k++) {
            int want = k == 0 ? 1 : 4;
            table("2 d.e " + records[k], "2 _dmarc.d.e v=DMARC1;p=reject", "3 b.e").says(0, "d.e", want, "_dmarc.d.e");
            table("2 d.e " + records[k], "2 _dmarc.d.e v=DMARC1;p=reject;aspf=s", "3 b.e").says(0, "d.e", want, "_dmarc.d.e");
            table("2 d.e " + records[k], "2 _dmarc.d.e v=DMARC1;p=reject;sp=none", "3 b.e").says(0, "x.d.e", k == 0 ? 1 : 2, "_dmarc.d.e");
        }
        // The latest check counts, not an earlier one.
        Probe probe = table("2 d.e v=spf1 ip4:1.2.3.4 -all", "2 _dmarc.d.e v=DMARC1;p=reject");
        probe.says(0, "d.e", 1, "_dmarc.d.e");
        probe.check("9.9.9.9", "d.e");
        probe.says(0, "d.e", 4, "_dmarc.d.e");
        // A refused check is not the latest one.
        probe.check("1.2.3.4", "d.e");
        probe.text("x..y");
        probe.refuses("check", () -> probe.guard().check(0), Probe.ILLEGAL_ARGUMENT);
        probe.says(0, "d.e", 1, "_dmarc.d.e");
        // It stays so if its record goes.
        probe.guard().drop(0);
        probe.says(0, "d.e", 1, "_dmarc.d.e");
    }

    private static void aligned(String domain, String name, boolean strict, boolean relaxed, String... suffixes) {
        for (int k = 0; k < 2; k++) {
            Probe probe = Probe.of("2 " + domain + " v=spf1 all", "2 _dmarc." + name + " v=DMARC1;p=reject;aspf=" + "sr".charAt(k));
            for (String suffix : suffixes) {
                probe.row(4, suffix);
            }
            probe.check("1.2.3.4", domain);
            probe.says(0, name, (k == 0 ? strict : relaxed) ? 1 : 4, "_dmarc." + name);
        }
    }

    private static void alignedByName() {
        Probe.sentence("D and F are the same (with s), or their ORGANISATIONs (with r)");
        aligned("d.e", "d.e", true, true);
        aligned("x.d.e", "d.e", false, true);
        aligned("d.e", "x.d.e", false, true);
        aligned("x.d.e", "y.d.e", false, true);
        aligned("d.e", "d.ee", false, false);
        aligned("d.e", "c.e", false, false);
        aligned("cd.e", "d.e", false, false);
        aligned("d.e", "e", false, false);
        aligned("x.d.e", "d.e", false, false, "d.e");
        aligned("x.d.e", "y.d.e", false, false, "d.e");
        aligned("x.d.e", "x.d.e", true, true, "d.e");
        aligned("y.x.d.e", "x.d.e", false, true, "d.e");
        aligned("y.x.d.e", "z.x.d.e", false, true, "d.e", "e");
        aligned("y.x.d.e", "z.x.d.e", false, false, "x.d.e");
        String longest = L16 + "." + L16 + ".abc.def";
        aligned(longest, longest, true, true);
        aligned(longest, "abc.def", false, true);
    }

    private static void brokenNames() {
        Probe.sentence("5 for an ERROR 5");
        String above = "2 _dmarc.d.e v=DMARC1;p=reject";
        String own = "2 _dmarc.x.d.e v=DMARC1;p=none";
        table(own, above, "3 _dmarc.x.d.e").says(0, "x.d.e", 5, "_dmarc.x.d.e");
        table("3 _dmarc.x.d.e").says(0, "x.d.e", 5, "_dmarc.x.d.e");
        table(above, "3 _dmarc.d.e").says(0, "x.d.e", 5, "_dmarc.d.e");
        table(above, "3 _dmarc.d.e").says(0, "d.e", 5, "_dmarc.d.e");
        table(own, above, "3 _dmarc.d.e").says(0, "x.d.e", 2, "_dmarc.x.d.e");
        table(above, "3 d.e", "3 x.d.e", "3 _dmarc.e", "3 _dmarc").says(0, "x.d.e", 4, "_dmarc.d.e");
        table("2 d.e v=spf1 all", above, "3 _dmarc.d.e").says(0, "d.e", 5, "_dmarc.d.e");
        // The error of a check is none of the policy.
        Probe probe = table(above, "3 d.e");
        Probe.due("latest(0)", probe.guard().latest(0), 5);
        probe.says(0, "d.e", 4, "_dmarc.d.e");
    }

    private static void policyLeavesTheCheck() {
        Probe.sentence("About the latest check; the name that was asked for last in the latest check or policy");
        Probe probe = table("2 d.e v=spf1 a:v.e ~all", "3 _dmarc.b.e", "2 _dmarc.d.e v=DMARC1;p=reject");
        Probe.due("latest", probe.latest() + " " + probe.asked(), "4 1 1 1 1 v.e");
        String[] names = {"d.e", "x.y.e", "b.e", "e"};
        int[] verdicts = {4, 0, 5, 0};
        String[] asked = {"_dmarc.d.e", "_dmarc.y.e", "_dmarc.b.e", "_dmarc.e"};
        for (int k = 0; k < names.length; k++) {
            probe.says(0, names[k], verdicts[k], asked[k]);
            Probe.due("latest after it", probe.latest(), "4 1 1 1 1");
        }
        // A refused one leaves the name that was asked for.
        probe.text("x..y");
        probe.refuses("policy", () -> probe.guard().policy(0), Probe.ILLEGAL_ARGUMENT);
        probe.checks("1.2.3.4", "e", "0 0 0 -1 1 ");
    }
}
