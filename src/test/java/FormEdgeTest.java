/** The boundary cases of a NAME, its LABELS and an ADDRESS, at each place where one is asked for. */
public final class FormEdgeTest {
    private static final String L16 = "abcdefghijklmnop";
    private static final String NAME_48 = L16 + "." + L16 + ".abcdefghijklmn";

    public static void main(String[] args) {
        lengthOfNames();
        lengthOfLabels();
        charactersOfLabels();
        pointsBetweenLabels();
        numbersOfAddresses();
        numbersThatAreNone();
        howManyNumbers();
        highestByteFirst();
        Probe.end();
    }

    private static void name(String name) {
        nameInCalls(name);
        nameInTargets(name);
    }

    private static void nameInCalls(String name) {
        for (int type = 0; type <= 4; type++) {
            String data = new String[] {" 1.2.3.4", " q", " x", "", ""}[type];
            Probe.due("row(" + type + ") of " + name, new Probe().row(type, name + data), 1);
        }
        Probe.due("row(1) of q and " + name, new Probe().row(1, "q " + name), 1);
        String askedFor = name.contains(".") ? name : "";
        new Probe().checks("1.2.3.4", name, "0 0 0 -1 1 " + askedFor);
        Probe probe = Probe.of("4 " + name);
        probe.check("1.2.3.4", "d.e");
        probe.says(0, name, 0, "_dmarc." + name);
    }

    private static void nameInTargets(String name) {
        Probe.of("2 d.e v=spf1 a:" + name).checks("1.2.3.4", "d.e", "1 1 1 -1 1 " + name);
        Probe.of("2 d.e v=spf1 mx:" + name).checks("1.2.3.4", "d.e", "1 1 1 -1 1 " + name);
        Probe.of("2 d.e v=spf1 exists:" + name).checks("1.2.3.4", "d.e", "1 1 1 -1 1 " + name);
        String askedFor = name.contains(".") ? name : "d.e";
        Probe.of("2 d.e v=spf1 include:" + name).checks("1.2.3.4", "d.e", "6 1 0 -1 2 " + askedFor);
        Probe.of("2 d.e v=spf1 redirect=" + name).checks("1.2.3.4", "d.e", "6 1 0 -1 2 " + askedFor);
    }

    private static void noName(String text) {
        noNameInCalls(text);
        if (!text.isEmpty()) {
            noNameInTargets(text);
        }
    }

    private static void noNameInCalls(String text) {
        for (int type = 0; type <= 4; type++) {
            String data = new String[] {" 1.2.3.4", " q", " x", "", ""}[type];
            refusesRow(type, text + data);
        }
        refusesRow(1, "q " + text);
        Probe probe = Probe.of("2 d.e v=spf1 -all");
        probe.check("1.2.3.4", "d.e");
        probe.text(text);
        probe.refuses("check of '" + text + "'", () -> probe.guard().check(7), Probe.ILLEGAL_ARGUMENT);
        probe.refuses("policy of '" + text + "'", () -> probe.guard().policy(7), Probe.ILLEGAL_ARGUMENT);
    }

    private static void refusesRow(int type, String text) {
        Probe probe = Probe.of("2 d.e v=spf1 -all");
        probe.text(text);
        probe.refuses("row(" + type + ") of '" + text + "'", () -> probe.guard().row(type), Probe.ILLEGAL_ARGUMENT);
    }

    /** Nothing is asked for what is no NAME, and to check it is an error, where no check is begun. */
    private static void noNameInTargets(String text) {
        Probe.of("2 d.e v=spf1 a:" + text).checks("1.2.3.4", "d.e", "1 1 0 -1 1 d.e");
        Probe.of("2 d.e v=spf1 mx:" + text).checks("1.2.3.4", "d.e", "1 1 0 -1 1 d.e");
        Probe.of("2 d.e v=spf1 exists:" + text).checks("1.2.3.4", "d.e", "1 1 0 -1 1 d.e");
        Probe.of("2 d.e v=spf1 include:" + text).checks("1.2.3.4", "d.e", "6 1 0 -1 1 d.e");
        Probe.of("2 d.e v=spf1 redirect=" + text).checks("1.2.3.4", "d.e", "6 1 0 -1 1 d.e");
    }

    private static void lengthOfNames() {
        Probe.sentence("A NAME is 1 to 48 characters");
        noName("");
        name("a");
        name("ab");
        name(NAME_48.substring(0, 47));
        name(NAME_48);
        noName(NAME_48 + "o");
        noName(NAME_48 + "op");
        name("a.".repeat(23) + "ab");
        noName("a.".repeat(24) + "a");
        noName("a.".repeat(24) + "ab");
        noName(L16 + "." + L16 + "." + L16);
    }

    private static void lengthOfLabels() {
        Probe.sentence("LABELS, each of 1 to 16 characters");
        name(L16);
        noName(L16 + "q");
        name(L16 + ".b.c");
        name("b." + L16 + ".c");
        name("b.c." + L16);
        noName(L16 + "q.b.c");
        noName("b." + L16 + "q.c");
        noName("b.c." + L16 + "q");
        noName(L16 + L16);
        name("a.b.c");
        noName(".b.c");
        noName("a..c");
        noName("a.b.");
        noName(".");
        noName("..");
    }

    private static void charactersOfLabels() {
        Probe.sentence("characters a .. z, 0 .. 9, - or _");
        String some = "abcdefghijklmnopqrstuvwxyz0123456789-_";
        for (char c = 33; c <= 126; c++) {
            if (some.indexOf(c) >= 0) {
                name(String.valueOf(c));
                name(c + ".b");
                name("a" + c + ".b");
                name("a." + c + "b");
                name("a." + c);
            } else if (c != '.') {
                noNameInCalls(c + ".b");
                noNameInCalls("a" + c + ".b");
                noNameInCalls("a." + c);
                if (c != '/' && c != '%') {
                    noNameInTargets(c + ".b");
                    noNameInTargets("a." + c);
                }
            }
        }
    }

    private static void pointsBetweenLabels() {
        Probe.sentence("with a . between each two");
        name("a.b");
        name("a.b.c.d.e.f.g.h.i.j.k.l.m.n.o.p.q.r.s.t.u.v.w.x");
        noName("a...b");
        noName("a.b..");
        noName("..a.b");
        noName("a,b");
        noName("a:b");
        Probe probe = Probe.of("2 d.e v=spf1 -all");
        String[] withBlanks = {" ", " a", "a ", "a b", "a. b", "a .b"};
        for (String text : withBlanks) {
            probe.text(text);
            probe.refuses("check of '" + text + "'", () -> probe.guard().check(7), Probe.ILLEGAL_ARGUMENT);
        }
    }

    private static void address(String written) {
        int bits = Probe.address(written);
        for (String row : new String[] {"0 d.e " + written, "1 d.e q"}) {
            String term = row.startsWith("0") ? "a" : "ip4:" + written;
            Probe probe = Probe.of(row, "2 d.e v=spf1 " + term + " -all");
            probe.text("d.e");
            Probe.due("check of " + written + " by " + term, probe.guard().check(bits), 2);
            probe.text("d.e");
            Probe.due("check of another by " + term, probe.guard().check(bits + 1), 3);
            probe.text("d.e");
            Probe.due("check of one with a higher bit by " + term, probe.guard().check(bits ^ 1 << 31), 3);
        }
        Probe.of("2 d.e v=spf1 exists:%{i}").checks(written, "d.e", "1 1 1 -1 1 " + written);
    }

    private static void noAddress(String text) {
        refusesRow(0, "d.e " + text);
        if (text.indexOf(' ') < 0) {
            Probe.of("2 d.e v=spf1 ip4:" + text).checks("1.2.3.4", "d.e", "6 0 0 -1 1 d.e");
            Probe.of("2 d.e v=spf1 ip4:" + text + "/0").checks("1.2.3.4", "d.e", "6 0 0 -1 1 d.e");
        }
    }

    private static String withNumber(int place, String number) {
        String[] numbers = {"1", "20", "103", "4"};
        numbers[place] = number;
        return String.join(".", numbers);
    }

    private static void numbersOfAddresses() {
        Probe.sentence("four numbers 0 .. 255");
        for (int place = 0; place < 4; place++) {
            for (int number = 0; number <= 255; number++) {
                address(withNumber(place, String.valueOf(number)));
            }
        }
        address("0.0.0.0");
        address("255.255.255.255");
        address("127.255.255.255");
        address("128.0.0.0");
    }

    private static void numbersThatAreNone() {
        Probe.sentence("0 .. 255 without a 0 at their front (but 0 itself)");
        String[] none = {"256", "257", "260", "300", "999", "1000", "65536", "4294967296", "4294967297", "00", "000", "01", "09", "010", "001",
            "0255", "0256", "", "-0", "-1", "+1", "1x", "x1", "x", "0x1", "1-", "1/", "1:", "/", ":"};
        for (int place = 0; place < 4; place++) {
            for (String number : none) {
                // A / would begin an n in a term, and is looked at there.
                if (number.indexOf('/') < 0) {
                    noAddress(withNumber(place, number));
                } else {
                    refusesRow(0, "d.e " + withNumber(place, number));
                }
            }
        }
        for (char c = 32; c <= 126; c++) {
            if (c < '0' || c > '9') {
                refusesRow(0, "d.e 1.2.3." + c);
                refusesRow(0, "d.e 1.2.3.4" + c);
                refusesRow(0, "d.e " + c + "1.2.3.4");
                if (c != '.') {
                    refusesRow(0, "d.e 1" + c + "2.3.4");
                }
            }
        }
    }

    private static void howManyNumbers() {
        Probe.sentence("written as four numbers, with a . between each two");
        String[] none = {"", "1", "1.2", "1.2.3", "1.2.3.4.5", "1.2.3.4.5.6.7.8", ".1.2.3.4", "1.2.3.4.", "1.2.3.", ".2.3.4", "1..3.4", "1.2..4",
            "1..2.3.4", "...", "....", "1,2,3,4", "1 2 3 4", "1.2.3.4 ", " 1.2.3.4", "1.2.3 .4", "1.2.3.4 5"};
        for (String text : none) {
            noAddress(text);
        }
    }

    private static void highestByteFirst() {
        Probe.sentence("An ADDRESS is an int, the highest byte first");
        int[] ints = {0x01020304, 0x80000000, 0x7fffffff, -1, 0, 1, 0x000000ff, 0xff000000};
        String[] written = {"1.2.3.4", "128.0.0.0", "127.255.255.255", "255.255.255.255", "0.0.0.0", "0.0.0.1", "0.0.0.255", "255.0.0.0"};
        for (int k = 0; k < ints.length; k++) {
            Probe probe = Probe.of("2 d.e v=spf1 ip4:" + written[k] + " exists:%{i} -all");
            for (int address : ints) {
                probe.text("d.e");
                Probe.due("check(" + address + ") by " + written[k], probe.guard().check(address), address == ints[k] ? 2 : 3);
            }
        }
    }
}
