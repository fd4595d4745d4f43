/** The boundary cases of the records that a check reads: their mark, terms, n, TARGETs and what these expand to. */
public final class TermEdgeTest {
    private static final String LETTERS = "abcdefghijklmnopqrstuvwxyz";
    private static final String[] PARTS = {"a", "b", "c", "d", "e", "f", "g", "h", "i", "j", "k", "l"};
    private static final String LABEL_CHARACTERS = LETTERS + "0123456789-_";

    public static void main(String[] args) {
        marks();
        howManyRecords();
        blanksBetweenTerms();
        beforeAnythingIsDone();
        signs();
        mechanismsWithAndWithoutParts();
        bitsThatAreAllowed();
        bitsThatAreNone();
        bitsThatAreTheSame();
        targetsOfOneAndOfNoCharacter();
        charactersOfTargets();
        namesOfModifiers();
        redirectOnceAndNotEmpty();
        otherModifiers();
        lettersOfMacros();
        digitsOfMacros();
        whatMacrosStandFor();
        partsOfMacros();
        partsTheOtherWayRound();
        Probe.end();
    }

    private static void result(String data, int want) {
        Probe.due("'" + data + "'", Probe.of("2 d.e " + data).check("1.2.3.4", "d.e"), want);
    }

    /** The record is taken as one, and does not match; or it is not, and nothing is done by it. */
    private static void term(String term, boolean allowed) {
        result("v=spf1 " + term + " ~all", allowed ? 4 : 6);
        if (!allowed) {
            Probe.of("2 d.e v=spf1 a all " + term).checks("1.2.3.4", "d.e", "6 0 0 -1 1 d.e");
        }
    }

    private static void marks() {
        Probe.sentence("those count whose data are v=spf1 or begin with v=spf1 and a blank");
        result("v=spf1", 1);
        result("v=spf1 ", 1);
        result("v=spf1 -all", 3);
        String mark = "v=spf1";
        for (int length = 1; length < mark.length(); length++) {
            result(mark.substring(0, length), 0);
            result(mark.substring(0, length) + " -all", 0);
            result(mark.substring(length) + " -all", 0);
        }
        for (char c = 33; c <= 126; c++) {
            result("v=spf1" + c, 0);
            result("v=spf1" + c + " -all", 0);
            for (int place = 0; place < mark.length(); place++) {
                if (c != mark.charAt(place)) {
                    result(mark.substring(0, place) + c + mark.substring(place + 1) + " -all", 0);
                }
            }
        }
        result(" v=spf1 -all", 0);
        result(" ", 0);
    }

    private static void howManyRecords() {
        Probe.sentence("none: 0; more than one: ERROR 6");
        new Probe().checks("1.2.3.4", "d.e", "0 0 0 -1 1 d.e");
        Probe.of("2 d.e x", "2 d.f v=spf1 all", "2 x.d.e v=spf1 all", "2 e v=spf1 all").checks("1.2.3.4", "d.e", "0 0 0 -1 1 d.e");
        Probe.of("2 d.e v=spf1 all", "2 d.e v=spf10", "2 d.e x").checks("1.2.3.4", "d.e", "2 0 0 0 1 d.e");
        String[] records = {"v=spf1", "v=spf1 ", "v=spf1 all", "v=spf1 x"};
        for (String one : records) {
            for (String other : records) {
                Probe.of("2 d.e " + one, "2 d.e " + other).checks("1.2.3.4", "d.e", "6 0 0 -1 1 d.e");
                Probe.of("2 d.e " + one, "3 x", "2 d.e x", "2 d.e " + other).checks("1.2.3.4", "d.e", "6 0 0 -1 1 d.e");
            }
        }
    }

    private static void blanksBetweenTerms() {
        Probe.sentence("TERMS with blanks between them (any number, also at the end)");
        for (int ahead = 1; ahead <= 20; ahead++) {
            result("v=spf1" + " ".repeat(ahead), 1);
            result("v=spf1" + " ".repeat(ahead) + "-all", 3);
            result("v=spf1 ip4:9.9.9.9" + " ".repeat(ahead) + "-all", 3);
            result("v=spf1 -all" + " ".repeat(ahead), 3);
        }
        result("v=spf1" + " ".repeat(90), 1);
        result("v=spf1-all", 0);
        result("v=spf1 allall", 6);
        result("v=spf1 ip4:9.9.9.9-all", 6);
    }

    private static void beforeAnythingIsDone() {
        Probe.sentence("Each must be one of these, else it is ERROR 6, before anything is done by them");
        String[] ahead = {"all", "a", "mx", "exists:x.e", "include:x.e", "ip4:1.2.3.4", "a:broken.e", "a a a a a a a a a a a"};
        for (String term : ahead) {
            Probe.of("2 d.e v=spf1 " + term + " x", "3 broken.e").checks("1.2.3.4", "d.e", "6 0 0 -1 1 d.e");
        }
        Probe.of("2 d.e v=spf1 redirect=x.e x").checks("1.2.3.4", "d.e", "6 0 0 -1 1 d.e");
        // The same for the record of an include: its own lookups are not made.
        Probe.of("2 d.e v=spf1 include:i.e", "2 i.e v=spf1 a all x").checks("1.2.3.4", "d.e", "6 1 0 -1 2 i.e");
    }

    private static void signs() {
        Probe.sentence("with or without one of + - ? ~ ahead of it (none is +)");
        for (char c = 33; c <= 126; c++) {
            int sign = "+-?~".indexOf(c);
            result("v=spf1 " + c + "all", sign < 0 ? 6 : new int[] {2, 3, 1, 4}[sign]);
            result("v=spf1 " + c, c == 'a' ? 1 : 6);
            result("v=spf1 " + c + "+all", 6);
            result("v=spf1 " + c + "-a", 6);
        }
        result("v=spf1 all", 2);
    }

    private static void mechanismsWithAndWithoutParts() {
        Probe.sentence("all; include:T; a, a:T, a/n, a:T/n; mx, mx:T, mx/n, mx:T/n; ip4:ADDRESS, ip4:ADDRESS/n; exists:T");
        String[] some = {"a", "a:x.e", "a/8", "a:x.e/8", "mx", "mx:x.e", "mx/8", "mx:x.e/8", "ip4:9.9.9.9", "ip4:9.9.9.9/8", "exists:x.e"};
        String[] none = {"all:x.e", "all/8", "all:", "all/", "include", "include/8", "include:x.e/8", "include:x.e/", "a:/8", "a/8:x.e", "a/",
            "a:x.e/", "mx:/8", "mx/8:x.e", "mx/", "mx:x.e/", "ip4", "ip4/8", "ip4:/8", "ip4:9.9.9.9/", "exists", "exists/8", "exists:x.e/8",
            "a:x.e/8/8", "mx/8/8", "ip4:9.9.9.9/8/8", "a//8", "aa", "al", "alll", "mxx", "m", "x", "ip", "ip44:9.9.9.9", "includ:x.e", "includes:x.e",
            "exist:x.e", "existss:x.e", "A", "MX", "ALL", "a.", "a,x.e", ":x.e", "/8", ":", "/"};
        for (String term : some) {
            term(term, true);
        }
        for (String term : none) {
            term(term, false);
        }
        Probe.of("2 d.e v=spf1 include:i.e ~all", "2 i.e v=spf1 -all").checks("1.2.3.4", "d.e", "4 1 0 1 2 i.e");
    }

    private static void bitsThatAreAllowed() {
        Probe.sentence("n is 0 .. 32");
        for (int n = 0; n <= 32; n++) {
            term("a/" + n, true);
            term("a:x.e/" + n, true);
            term("mx/" + n, true);
            term("mx:x.e/" + n, true);
            result("v=spf1 ip4:1.2.3.4/" + n, 2);
        }
    }

    private static void bitsThatAreNone() {
        Probe.sentence("n is 0 .. 32, without a 0 at its front (but 0 itself)");
        String[] none = {"", "33", "34", "40", "64", "99", "100", "132", "256", "320", "4294967296", "4294967328", "18446744073709551616",
            "00", "000", "01", "08", "032", "010", "-0", "-1", "+8", "8x", "x", "8.", "8:", "3 2", "%", "/"};
        for (String n : none) {
            term("a/" + n, false);
            term("a:x.e/" + n, false);
            term("mx/" + n, false);
            term("mx:x.e/" + n, false);
            term("ip4:1.2.3.4/" + n, false);
        }
        for (char c = 33; c <= 126; c++) {
            term("a:x.e/" + c, c >= '0' && c <= '9');
            term("a:x.e/1" + c, c >= '0' && c <= '9');
        }
    }

    private static void bitsThatAreTheSame() {
        Probe.sentence("the first n bits (32 without n) of both addresses are the same");
        String written = "170.204.15.51";
        int address = Probe.address(written);
        String[] terms = {"ip4:" + written, "a", "a:h.e", "mx", "mx:m.e"};
        for (String term : terms) {
            Probe plain = Probe.of("2 d.e v=spf1 " + term + " -all", "0 d.e " + written, "0 h.e " + written, "1 d.e d.e", "1 m.e h.e");
            sameBits(plain, term, address, 32);
            for (int n = 0; n <= 32; n++) {
                String limited = term + "/" + n;
                sameBits(Probe.of("2 d.e v=spf1 " + limited + " -all", "0 d.e " + written, "0 h.e " + written, "1 d.e d.e", "1 m.e h.e"),
                    limited, address, n);
            }
        }
    }

    private static void sameBits(Probe probe, String term, int address, int n) {
        probe.text("d.e");
        Probe.due(term + " with the same address", probe.guard().check(address), 2);
        if (n > 0) {
            probe.text("d.e");
            Probe.due(term + " with another last bit of the first", probe.guard().check(address ^ 1 << 32 - n), 3);
            probe.text("d.e");
            Probe.due(term + " with another first bit", probe.guard().check(address ^ 1 << 31), 3);
        }
        if (n < 32) {
            int behind = n == 0 ? -1 : (1 << 32 - n) - 1;
            probe.text("d.e");
            Probe.due(term + " with all others behind them", probe.guard().check(address ^ behind), 2);
        }
    }

    private static void targetsOfOneAndOfNoCharacter() {
        Probe.sentence("A TARGET is one or more characters");
        String[] kinds = {"a", "mx", "exists", "include"};
        for (String kind : kinds) {
            term(kind + ":", false);
            if (!kind.equals("include")) {
                term(kind + ":x", true);
                term(kind + ":!", true);
            }
        }
        Probe.of("2 d.e v=spf1 include:x").checks("1.2.3.4", "d.e", "6 1 0 -1 2 d.e");
        Probe.of("2 d.e v=spf1 redirect=x").checks("1.2.3.4", "d.e", "6 1 0 -1 2 d.e");
        // The longest one that a text has room for.
        term("exists:" + "x".repeat(77), true);
        term("x=" + "x".repeat(82), true);
    }

    private static void charactersOfTargets() {
        Probe.sentence("characters 33 .. 126; T is a TARGET without a /; that of a MODIFIER may have a /");
        for (char c = 33; c <= 126; c++) {
            boolean plain = c != '/' && c != '%';
            String[] targets = {"" + c, "x" + c, c + "x", "x" + c + "x"};
            for (String target : targets) {
                term("exists:" + target, plain);
                term("x=" + target, c != '%');
            }
            // An n may stand behind a / there.
            term("a:x" + c + "x", plain);
            term("mx:x" + c + "x", plain);
            result("v=spf1 redirect=x" + c + "x ~all", c == '%' ? 6 : 4);
            int checks = LABEL_CHARACTERS.indexOf(c) >= 0 || c == '.' ? 2 : 1;
            int lookups = plain ? 1 : 0;
            Probe probe = Probe.of("2 d.e v=spf1 include:x" + c + "x");
            probe.check("1.2.3.4", "d.e");
            Probe.due("latest of include:x" + c + "x", probe.latest(), "6 " + lookups + " 0 -1 " + checks);
        }
    }

    private static void namesOfModifiers() {
        Probe.sentence("a letter a .. z, any number of a .. z, 0 .. 9, -, _ or ., then =");
        for (char c = 33; c <= 126; c++) {
            term(c + "=y", LETTERS.indexOf(c) >= 0);
            boolean later = LABEL_CHARACTERS.indexOf(c) >= 0 || c == '.';
            term("x" + c + "y=z", later || c == '=');
            term("x" + c + "=z", later || c == '=');
        }
        term("x=", true);
        term("=", false);
        term("==", false);
        term("xyz0123456789-_.abcdefghijklmnopqrstuvwxyz=", true);
        // What begins so is a modifier, whatever it is called.
        term("all=", true);
        term("a=b", true);
        term("include=b", true);
        term("ip4=b", true);
        term("a:b=c", true);
        term("a/8=c", false);
    }

    private static void redirectOnceAndNotEmpty() {
        Probe.sentence("redirect must not have an empty one, and be there once at most");
        term("redirect=", false);
        term("redirect=x", true);
        term("redirect=/", true);
        term("redirect", false);
        term("redirect:x", false);
        term("redirect=x redirect=x", false);
        term("redirect=x a redirect=y", false);
        term("redirect=x redirect=", false);
        term("redirect=x redirects=x redirec=x redirect.=x", true);
        Probe.of("2 d.e v=spf1 redirect=r.e", "2 r.e v=spf1 redirect=s.e", "2 s.e v=spf1 -all").checks("1.2.3.4", "d.e", "3 2 0 -1 3 s.e");
    }

    private static void otherModifiers() {
        Probe.sentence("a TARGET that may be empty; all other modifiers count for nothing");
        term("x= x= y= x=z", true);
        term("exp=", true);
        term("exp=broken.e", true);
        Probe.of("2 d.e v=spf1 exp=broken.e x= a:h.e y=z -all w=", "3 broken.e", "0 h.e 9.9.9.9").checks("1.2.3.4", "d.e", "3 1 0 1 1 h.e");
        Probe.of("2 d.e v=spf1 redirects=r.e", "2 r.e v=spf1 -all").checks("1.2.3.4", "d.e", "1 0 0 -1 1 d.e");
    }

    private static void macro(String macro, boolean allowed) {
        term("exists:" + macro, allowed);
        term("exists:x." + macro + ".x", allowed);
        term("a:" + macro + "/8", allowed);
        term("mx:" + macro, allowed);
        term("x=" + macro, allowed);
        result("v=spf1 ~all redirect=" + macro, allowed ? 4 : 6);
        result("v=spf1 ~all include:" + macro, allowed ? 4 : 6);
    }

    private static void lettersOfMacros() {
        Probe.sentence("each % is that of %% or of %{ a letter d, i or o");
        for (char c = 33; c <= 126; c++) {
            if (c != '/') {
                macro("%" + c, c == '%');
                macro("%{" + c + "}", "dio".indexOf(c) >= 0);
            }
        }
        macro("%", false);
        macro("%%%", false);
        macro("%%%%", true);
        macro("%{}", false);
        macro("%{", false);
        macro("%{d", false);
        macro("%{d}", true);
        macro("%{dd}", false);
        macro("%{d}%", false);
        macro("%%{q}", true);
        macro("%%%{q}", false);
        macro("%%%{d}", true);
        macro("{d}", true);
        macro("}%{d}{", true);
        term("exists:%{d/}", false);
        // The macro must end within its term.
        result("v=spf1 exists:%{d }", 6);
        result("v=spf1 exists:%{d1 r}", 6);
        result("v=spf1 exists:% %", 6);
        result("v=spf1 a:%{d/8", 6);
        result("v=spf1 a:%/8", 6);
    }

    private static void digitsOfMacros() {
        Probe.sentence("with or without a digit 1 .. 9, with or without r, and }");
        for (char letter : "dio".toCharArray()) {
            for (char c = 33; c <= 126; c++) {
                if (c != '/') {
                    boolean digit = c >= '1' && c <= '9';
                    macro("%{" + letter + c + "}", digit || c == 'r' || c == '}');
                    macro("%{" + letter + c + "r}", digit || c == '}');
                    macro("%{" + letter + "1" + c + "}", c == 'r' || c == '}');
                    macro("%{" + letter + "r" + c + "}", c == '}');
                    macro("%{" + letter + "9r" + c, c == '}');
                }
            }
        }
        macro("%{d10}", false);
        macro("%{d01}", false);
    }

    private static void whatMacrosStandFor() {
        Probe.sentence("%% is a %; d is the domain that is checked, i the address as written, o the domain that was checked first");
        String[] leading = {"include:i.j", "redirect=i.j"};
        for (String term : leading) {
            Probe probe = Probe.of("2 d.e v=spf1 " + term, "2 i.j v=spf1 include:k.l", "2 k.l v=spf1 exists:%{d}.%{i}.%{o}");
            probe.checks("1.20.103.4", "d.e", "1 3 1 -1 3 k.l.1.20.103.4.d.e");
            // The next check has an address and a domain of its own.
            probe.checks("0.0.0.0", "i.j", "1 2 1 -1 2 k.l.0.0.0.0.i.j");
            probe.checks("255.255.255.255", "k.l", "1 1 1 -1 1 k.l.255.255.255.255.k.l");
            probe.checks("9.8.7.6", "d.e", "1 3 1 -1 3 k.l.9.8.7.6.d.e");
        }
        // Behind an include the domain is the outer one again.
        Probe.of("2 d.e v=spf1 include:i.j exists:%{d}.x", "2 i.j v=spf1 -exists:%{d}", "0 i.j 9.9.9.9").checks("1.2.3.4", "d.e", "1 3 1 -1 2 d.e.x");
        // A % is no character of a NAME, so %% leads to none; and what it makes is not expanded again.
        Probe.of("2 d.e v=spf1 exists:%% exists:%%{d} exists:%{d}%%").checks("1.2.3.4", "d.e", "1 3 0 -1 1 d.e");
    }

    private static String joined(int from, int to, boolean turned) {
        StringBuilder all = new StringBuilder();
        for (int k = from; k < to; k++) {
            String part = PARTS[turned ? to - 1 - (k - from) : k];
            all.append(k == from ? "" : ".").append(part);
        }
        return all.toString();
    }

    private static void partsOfMacros() {
        Probe.sentence("the last so many with a digit (all if there are not more), a . between each two");
        for (int parts = 2; parts <= PARTS.length; parts++) {
            String domain = joined(0, parts, false);
            expands(domain, "%{d}", domain);
            for (int digit = 1; digit <= 9; digit++) {
                expands(domain, "%{d" + digit + "}", joined(Math.max(0, parts - digit), parts, false));
                expands(domain, "%{o" + digit + "}", joined(Math.max(0, parts - digit), parts, false));
            }
        }
        String[] ends = {"4", "103.4", "20.103.4", "1.20.103.4", "1.20.103.4"};
        for (int digit = 1; digit <= 5; digit++) {
            expands("d.e", "%{i" + digit + "}", ends[digit - 1]);
        }
        expands("d.e", "%{i9}", "1.20.103.4");
    }

    private static void partsTheOtherWayRound() {
        Probe.sentence("the other way round with r, the last so many with a digit");
        for (int parts = 2; parts <= PARTS.length; parts++) {
            String domain = joined(0, parts, false);
            expands(domain, "%{dr}", joined(0, parts, true));
            for (int digit = 1; digit <= 9; digit++) {
                expands(domain, "%{d" + digit + "r}", joined(0, Math.min(parts, digit), true));
            }
        }
        expands("d.e", "%{ir}", "4.103.20.1");
        expands("d.e", "%{i1r}", "1");
        expands("d.e", "%{i4r}", "4.103.20.1");
        expands("d.e", "%{i5r}", "4.103.20.1");
    }

    private static void expands(String domain, String target, String want) {
        Probe.of("2 " + domain + " v=spf1 exists:" + target).checks("1.20.103.4", domain, "1 1 1 -1 1 " + want);
    }
}
