/** The boundary cases of the text and of calls that are typed into it: promises 1 to 4. */
public final class TextEdgeTest {
    private static final int[] PLACES = {0, 1, 2, 3, 4, 5, 6, 7};

    public static void main(String[] args) {
        newObjectIsEmpty();
        objectsAreApart();
        eachByteInEachPlace();
        bytesThatAreZero();
        highestByteFirst();
        hundredCharacters();
        partsThatEndAtTheLimit();
        hundredCharactersAreHeld();
        wipeOfNothingAndOfAll();
        lengthOfEachText();
        Probe.end();
    }

    private static boolean isCharacter(int code) {
        return code >= 32 && code <= 126;
    }

    private static Probe holding(int characters) {
        return new Probe().text("x".repeat(characters));
    }

    private static void takes(Probe probe, long part, int length) {
        String call = "type(" + Long.toHexString(part) + ")";
        Probe.due(call, probe.guard().type(part), true);
        Probe.due("length after " + call, probe.guard().length(), length);
    }

    private static void refuses(Probe probe, long part) {
        String call = "type(" + Long.toHexString(part) + ")";
        String before = probe.view();
        Probe.due(call, probe.guard().type(part), false);
        Probe.due("what is seen after " + call, probe.view(), before);
    }

    private static void newObjectIsEmpty() {
        Probe.sentence("An empty text, an empty table, nothing checked.");
        Probe probe = new Probe();
        Probe.due("what is seen", probe.view(), "0 | -1 -1 -1 -1 -1 |  | 0 -1");
        Probe.due("asked(-1)", probe.guard().asked(-1), -1);
        Probe.due("asked(0)", probe.guard().asked(0), -1);
        Probe.due("drop(0)", probe.guard().drop(0), false);
        probe.refuses("check of the empty text", () -> probe.guard().check(0), Probe.ILLEGAL_ARGUMENT);
        for (int type = 0; type <= 4; type++) {
            int kind = type;
            probe.refuses("row(" + type + ") of the empty text", () -> probe.guard().row(kind), Probe.ILLEGAL_ARGUMENT);
        }
        Probe.due("policy before a check", new Probe().policy(0, "a"), Probe.ILLEGAL_STATE);
    }

    private static void objectsAreApart() {
        Probe.sentence("A new object: an empty text, an empty table, nothing checked.");
        Probe used = Probe.of("2 d.e v=spf1 -all");
        used.check("1.2.3.4", "d.e");
        used.text("abc");
        Probe.due("what is seen of a new one", new Probe().view(), "0 | -1 -1 -1 -1 -1 |  | 0 -1");
        Probe.due("what is seen of the used one", used.view(), "3 | 3 0 0 0 1 | d.e | 1 2 -1");
    }

    private static void eachByteInEachPlace() {
        Probe.sentence("false if another byte is not 32 .. 126");
        for (int place : PLACES) {
            for (int code = 1; code <= 255; code++) {
                long alone = (long) code << 8 * place;
                long others = 0x6161616161616161L & ~(255L << 8 * place) | alone;
                if (isCharacter(code)) {
                    takes(holding(3), alone, 4);
                    takes(holding(3), others, 11);
                } else {
                    refuses(holding(3), alone);
                    refuses(holding(3), others);
                }
            }
        }
    }

    private static void bytesThatAreZero() {
        Probe.sentence("bytes that are 0 are passed over");
        takes(holding(0), 0, 0);
        takes(holding(100), 0, 100);
        for (int zeros = 0; zeros < 256; zeros++) {
            long part = 0;
            for (int place : PLACES) {
                part |= (zeros >> place & 1) == 0 ? 0x61L << 8 * place : 0;
            }
            takes(new Probe(), part, 8 - Integer.bitCount(zeros));
        }
        // Only those that are added count against the limit.
        takes(holding(99), 0x61L << 56, 100);
        takes(holding(99), 0x61L << 24, 100);
        takes(holding(98), 0x6100000000000061L, 100);
    }

    private static void highestByteFirst() {
        Probe.sentence("the eight bytes of part, the highest first");
        Probe probe = new Probe();
        takes(probe, 0x612e622e632e642eL, 8);
        takes(probe, 0x650000002e000066L, 11);
        probe.guard().check(0);
        Probe.due("the name", probe.asked(), "a.b.c.d.e.f");
    }

    private static void hundredCharacters() {
        Probe.sentence("THE TEXT has at most 100 characters");
        Probe probe = holding(99);
        refuses(probe, Probe.part("ab"));
        takes(probe, Probe.part("a"), 100);
        refuses(probe, Probe.part("a"));
        refuses(probe, Probe.part(" "));
        refuses(probe, Probe.part("abcdefgh"));
        refuses(probe, 1);
        refuses(probe, -1);
        takes(probe, 0, 100);
    }

    private static void partsThatEndAtTheLimit() {
        Probe.sentence("false if there would be more than 100");
        for (int added = 1; added <= 8; added++) {
            long part = Probe.part("abcdefgh".substring(0, added));
            takes(holding(100 - added), part, 100);
            refuses(holding(101 - added), part);
            refuses(holding(100), part);
        }
    }

    private static void hundredCharactersAreHeld() {
        Probe.sentence("Adds the characters to the text; at most 100");
        String record = "d.e v=spf1" + " ".repeat(86) + "-all";
        Probe probe = new Probe().text(record);
        Probe.due("length", probe.guard().length(), 100);
        // What is refused must not stand behind or in the place of what was there.
        refuses(probe, Probe.part("x"));
        Probe.due("row(2)", Probe.caught(() -> probe.guard().row(2)), 1);
        probe.checks("1.2.3.4", "d.e", "3 0 0 0 1 d.e");
        Probe shorter = new Probe().text(record.substring(0, 99));
        refuses(shorter, Probe.part("lx"));
        takes(shorter, Probe.part("l"), 100);
        Probe.due("row(2)", Probe.caught(() -> shorter.guard().row(2)), 1);
        shorter.checks("1.2.3.4", "d.e", "3 0 0 0 1 d.e");
        Probe name = new Probe().text("a.b");
        refuses(name, 0x2e6300000000007fL);
        refuses(name, 0x1f2e630000000000L);
        takes(name, Probe.part(".d"), 5);
        Probe.due("check", name.guard().check(0), 0);
        Probe.due("the name", name.asked(), "a.b.d");
    }

    private static void wipeOfNothingAndOfAll() {
        Probe.sentence("The text becomes empty.");
        for (int characters = 0; characters <= 100; characters++) {
            Probe probe = holding(characters);
            probe.guard().wipe();
            Probe.due("length after wipe of " + characters, probe.guard().length(), 0);
            probe.refuses("check after wipe", () -> probe.guard().check(0), Probe.ILLEGAL_ARGUMENT);
        }
        Probe again = holding(100);
        again.text("y".repeat(100));
        Probe.due("length of a hundred more", again.guard().length(), 100);
        // Wipe leaves all but the text.
        Probe full = Probe.of("2 d.e v=spf1 ~all", "3 x");
        full.check("1.2.3.4", "d.e");
        full.text("abc");
        full.guard().wipe();
        full.guard().wipe();
        Probe.due("what is seen", full.view(), "0 | 4 0 0 0 1 | d.e | 2 2 3 -1");
    }

    private static void lengthOfEachText() {
        Probe.sentence("How many characters the text has.");
        Probe probe = new Probe();
        for (int characters = 0; characters <= 100; characters++) {
            Probe.due("length", probe.guard().length(), characters);
            Probe.due("type of one more", probe.guard().type(' '), characters < 100);
        }
        Probe.due("length", probe.guard().length(), 100);
    }
}
