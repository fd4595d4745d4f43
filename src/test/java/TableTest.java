/** Promises 5, 6 and 11: row, drop, rows. */
public final class TableTest {
    private static final String LONG = "aaaaaaaaaaaaaaaa";

    public static void main(String[] args) {
        rowTakesTheTextByItsType();
        rowRefusesTexts();
        rowRefusesTypes();
        rowRefusesTheSeventeenth();
        dropMovesUp();
        rowsTells();
        Probe.end();
    }

    private static void takes(int type, String text) {
        Probe probe = new Probe();
        probe.row(4, "z");
        Probe.due("row(" + type + ") of '" + text + "'", probe.row(type, text), 2);
        Probe.due("length after it", probe.guard().length(), 0);
        Probe.due("rows(1) after it", probe.guard().rows(1), type);
    }

    private static void refuses(int type, String text) {
        Probe probe = new Probe();
        probe.row(4, "z");
        probe.text(text);
        String before = probe.view();
        Probe.due("row(" + type + ") of '" + text + "'", Probe.caught(() -> probe.guard().row(type)), Probe.ILLEGAL_ARGUMENT);
        Probe.due("after it", probe.view(), before);
    }

    private static void rowTakesTheTextByItsType() {
        String[] addresses = {"0.0.0.0", "255.255.255.255", "10.0.200.99", "1.2.3.4"};
        for (String address : addresses) {
            takes(0, "a.b " + address);
        }
        String[] names = {"a", "0", "-", "_", "a.b", "a-_9.z.0", LONG, LONG + "." + LONG + ".aaaaaaaaaaaaaa",
            "a.a.a.a.a.a.a.a.a.a.a.a.a.a.a.a.a.a.a.a.a.a.a.a"};
        for (String name : names) {
            takes(1, "q " + name);
            takes(1, name + " q");
            takes(3, name);
            takes(4, name);
        }
        takes(2, "a x");
        takes(2, "a  ");
        takes(2, "a " + "~".repeat(98));
        takes(2, LONG + "." + LONG + ".aaaaaaaaaaaaaa " + "x".repeat(51));
    }

    private static void rowRefusesTexts() {
        String[] noNames = {"", ".", "a.", ".a", "a..b", "A", "a.B", "a/b", "a:b", "a%", "a{", "`a", "a~", "a,", LONG + "a", "b." + LONG + "a",
            LONG + "a.b", LONG + "." + LONG + ".aaaaaaaaaaaaaaa", "a.a.a.a.a.a.a.a.a.a.a.a.a.a.a.a.a.a.a.a.a.a.a.aaa"};
        for (String name : noNames) {
            refuses(0, name + " 1.2.3.4");
            refuses(1, name + " a");
            refuses(2, name + " x");
            refuses(3, name);
            refuses(4, name);
            refuses(1, "a " + name);
        }
        String[] noAddresses = {"", "1", "1.2.3", "1.2.3.4.5", "1.2.3.", ".1.2.3", "1..2.3", "01.2.3.4", "1.2.3.00",
            "256.1.1.1", "1.1.1.256", "1.2.3.1000", "1.2.3.4 ", " 1.2.3.4", "1.2.3.a", "1.2.3.:", "1.2.3./", "-1.2.3.4", "1.2.3.4.", "1,2,3,4"};
        for (String address : noAddresses) {
            refuses(0, "a " + address);
        }
        for (int type = 0; type <= 2; type++) {
            refuses(type, "a");
            refuses(type, "a ");
        }
        refuses(1, "a b c");
        refuses(1, "a  b");
        refuses(2, " a x");
        refuses(3, "a ");
        refuses(4, "a b");
        refuses(3, " a");
    }

    private static void rowRefusesTypes() {
        int[] types = {-1, 5, 6, Integer.MIN_VALUE, Integer.MAX_VALUE};
        for (int type : types) {
            refuses(type, "a");
            refuses(type, "a a");
            refuses(type, "a 1.2.3.4");
        }
    }

    private static void rowRefusesTheSeventeenth() {
        Probe probe = new Probe();
        for (int k = 0; k < 16; k++) {
            Probe.due("row " + k, probe.row(3, "n" + k), k + 1);
        }
        probe.text("more");
        String before = probe.view();
        Probe.due("the seventeenth", Probe.caught(() -> probe.guard().row(3)), Probe.ILLEGAL_STATE);
        Probe.due("after the seventeenth", probe.view(), before);
        Probe.due("a wrong seventeenth", Probe.caught(() -> probe.guard().row(5)), Probe.ILLEGAL_ARGUMENT);
        Probe.due("drop of the last", probe.guard().drop(15), true);
        Probe.due("the sixteenth again", probe.row(4, "more"), 16);
        Probe.due("its type", probe.guard().rows(15), 4);
    }

    private static void dropMovesUp() {
        Probe probe = new Probe();
        Probe.due("drop(0) of none", probe.guard().drop(0), false);
        probe.row(0, "a 1.2.3.4");
        probe.row(1, "b b");
        probe.row(2, "d.e v=spf1 -all");
        probe.row(3, "c");
        int[] none = {-1, 4, 16, Integer.MIN_VALUE, Integer.MAX_VALUE};
        for (int k : none) {
            String before = probe.view();
            Probe.due("drop(" + k + ")", probe.guard().drop(k), false);
            Probe.due("after drop(" + k + ")", probe.view(), before);
        }
        probe.text("keep");
        Probe.due("drop(1)", probe.guard().drop(1), true);
        Probe.due("after drop(1)", probe.view(), "4 | -1 -1 -1 -1 -1 |  | 3 0 2 3 -1");
        Probe.due("what moved up", probe.check("1.1.1.1", "d.e"), 3);
        Probe.due("drop(2)", probe.guard().drop(2), true);
        Probe.due("drop(2) again", probe.guard().drop(2), false);
        Probe.due("drop(0)", probe.guard().drop(0), true);
        Probe.due("drop(0) again", probe.guard().drop(0), true);
        Probe.due("rows(-1)", probe.guard().rows(-1), 0);
        Probe.due("what is gone", probe.check("1.1.1.1", "d.e"), 0);
        // A slot that is used again must not keep what stood there.
        probe.row(2, "d.e v=spf1 -all");
        probe.guard().drop(0);
        probe.row(2, "d.e v=spf1");
        Probe.due("a row in the place of a longer one", probe.check("1.1.1.1", "d.e"), 1);
    }

    private static void rowsTells() {
        Probe probe = new Probe();
        String[] texts = {"a 1.2.3.4", "a b", "a x", "a", "a"};
        for (int type = 0; type < 5; type++) {
            probe.row(type, texts[type]);
            Probe.due("rows(-1)", probe.guard().rows(-1), type + 1);
        }
        for (int type = 0; type < 5; type++) {
            Probe.due("rows(" + type + ")", probe.guard().rows(type), type);
        }
        int[] none = {-2, 5, 16, Integer.MIN_VALUE, Integer.MAX_VALUE};
        for (int k : none) {
            Probe.due("rows(" + k + ")", probe.guard().rows(k), -1);
        }
    }
}
