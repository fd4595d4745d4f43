/** The boundary cases of the table: promises 5, 6 and 11. */
public final class TableEdgeTest {
    private static final String[] DATA = {" 1.2.3.4", " q", " x", "", ""};
    private static final int[] FAR = {Integer.MIN_VALUE, Integer.MIN_VALUE + 1, -256, -17, 17, 256, Integer.MAX_VALUE - 1, Integer.MAX_VALUE};

    public static void main(String[] args) {
        sixteenRows();
        fullTableIsToldLast();
        typesOfRows();
        dataOfTextRows();
        dataOfMailRows();
        rowsWithoutData();
        rowEmptiesTheText();
        dropOfEachRow();
        dropOfNone();
        rowsOfEachTable();
        rowsStayInOrder();
        latestStays();
        Probe.end();
    }

    private static Probe full() {
        Probe probe = new Probe();
        for (int k = 0; k < 16; k++) {
            Probe.due("row " + k, probe.row(k % 5, "n" + k + DATA[k % 5]), k + 1);
        }
        return probe;
    }

    private static void refusesRow(Probe probe, int type, String text, int want) {
        probe.text(text);
        probe.refuses("row(" + type + ") of '" + text + "'", () -> probe.guard().row(type), want);
    }

    private static void sixteenRows() {
        Probe.sentence("THE TABLE has at most 16 ROWS; IllegalStateException if there are 16");
        for (int type = 0; type <= 4; type++) {
            Probe probe = full();
            refusesRow(probe, type, "a" + DATA[type], Probe.ILLEGAL_STATE);
            Probe.due("drop(0)", probe.guard().drop(0), true);
            // The text that was refused is still there.
            int kind = type;
            Probe.due("the sixteenth", Probe.caught(() -> probe.guard().row(kind)), 16);
            Probe.due("its type", probe.guard().rows(15), type);
            refusesRow(probe, type, "a" + DATA[type], Probe.ILLEGAL_STATE);
        }
    }

    private static void fullTableIsToldLast() {
        Probe.sentence("IllegalArgumentException if type is not 0 .. 4 or the text is not so; IllegalStateException if there are 16");
        Probe probe = full();
        refusesRow(probe, 5, "a", Probe.ILLEGAL_ARGUMENT);
        refusesRow(probe, -1, "a", Probe.ILLEGAL_ARGUMENT);
        refusesRow(probe, 3, "", Probe.ILLEGAL_ARGUMENT);
        refusesRow(probe, 0, "a 1.2.3", Probe.ILLEGAL_ARGUMENT);
    }

    private static void typesOfRows() {
        Probe.sentence("IllegalArgumentException if type is not 0 .. 4");
        for (int type = 0; type <= 4; type++) {
            Probe probe = new Probe();
            Probe.due("row(" + type + ")", probe.row(type, "a" + DATA[type]), 1);
            Probe.due("rows(0)", probe.guard().rows(0), type);
        }
        for (String data : DATA) {
            refusesRow(Probe.of("3 z"), -1, "a" + data, Probe.ILLEGAL_ARGUMENT);
            refusesRow(Probe.of("3 z"), 5, "a" + data, Probe.ILLEGAL_ARGUMENT);
            for (int type : FAR) {
                refusesRow(Probe.of("3 z"), type, "a" + data, Probe.ILLEGAL_ARGUMENT);
            }
        }
    }

    private static void dataOfTextRows() {
        Probe.sentence("2 TEXT, one or more characters");
        refusesRow(Probe.of("3 z"), 2, "a", Probe.ILLEGAL_ARGUMENT);
        refusesRow(Probe.of("3 z"), 2, "a ", Probe.ILLEGAL_ARGUMENT);
        refusesRow(Probe.of("3 z"), 2, " x", Probe.ILLEGAL_ARGUMENT);
        refusesRow(Probe.of("3 z"), 2, " ", Probe.ILLEGAL_ARGUMENT);
        for (char c = 32; c <= 126; c++) {
            Probe.due("row(2) of a and '" + c + "'", new Probe().row(2, "a " + c), 1);
        }
        Probe.due("row(2) of a and 98 characters", new Probe().row(2, "a " + "~".repeat(98)), 1);
        // The longest data are held to their last character.
        String longest = "d.e v=spf1" + " ip4:1.2.3.4/32".repeat(5) + " ".repeat(10);
        Probe.of("2 " + longest + " -all").checks("9.9.9.9", "d.e", "3 0 0 5 1 d.e");
        Probe.of("2 " + longest + " -alx").checks("9.9.9.9", "d.e", "6 0 0 -1 1 d.e");
        String name = "abcdefghijklmnop.abcdefghijklmnop.abcdefghijklmn";
        Probe.of("2 " + name + " v=spf1" + " ".repeat(41) + "~all").checks("9.9.9.9", name, "4 0 0 0 1 " + name);
    }

    private static void dataOfMailRows() {
        Probe.sentence("0 HOST, an address; 1 MAIL, a name: a blank and DATA");
        for (int type = 0; type <= 1; type++) {
            refusesRow(Probe.of("3 z"), type, "a", Probe.ILLEGAL_ARGUMENT);
            refusesRow(Probe.of("3 z"), type, "a ", Probe.ILLEGAL_ARGUMENT);
            refusesRow(Probe.of("3 z"), type, "a " + DATA[type], Probe.ILLEGAL_ARGUMENT);
            refusesRow(Probe.of("3 z"), type, "a" + DATA[type] + " ", Probe.ILLEGAL_ARGUMENT);
            refusesRow(Probe.of("3 z"), type, "a" + DATA[type] + DATA[type], Probe.ILLEGAL_ARGUMENT);
            refusesRow(Probe.of("3 z"), type, " a" + DATA[type], Probe.ILLEGAL_ARGUMENT);
        }
        refusesRow(Probe.of("3 z"), 0, "a q", Probe.ILLEGAL_ARGUMENT);
        // An address is a name too, as it is written.
        Probe.due("row(1) of a and 1.2.3.4", new Probe().row(1, "a 1.2.3.4"), 1);
        String name = "abcdefghijklmnop.abcdefghijklmnop.abcdefghijklmn";
        Probe.of("2 d.e v=spf1 mx", "1 d.e " + name, "0 " + name + " 1.2.3.4").checks("1.2.3.4", "d.e", "2 1 0 0 1 " + name);
    }

    private static void rowsWithoutData() {
        Probe.sentence("3 BROKEN and 4 SUFFIX have none");
        for (int type = 3; type <= 4; type++) {
            Probe.due("row(" + type + ") of a", new Probe().row(type, "a"), 1);
            refusesRow(Probe.of("3 z"), type, "a ", Probe.ILLEGAL_ARGUMENT);
            refusesRow(Probe.of("3 z"), type, "a b", Probe.ILLEGAL_ARGUMENT);
            refusesRow(Probe.of("3 z"), type, "a 1.2.3.4", Probe.ILLEGAL_ARGUMENT);
            refusesRow(Probe.of("3 z"), type, " a", Probe.ILLEGAL_ARGUMENT);
            refusesRow(Probe.of("3 z"), type, "", Probe.ILLEGAL_ARGUMENT);
        }
    }

    private static void rowEmptiesTheText() {
        Probe.sentence("becomes the last row, and is empty then: how many rows there are");
        for (int type = 0; type <= 4; type++) {
            Probe probe = Probe.of("3 y", "4 z");
            Probe.due("row(" + type + ")", probe.row(type, "a" + DATA[type]), 3);
            Probe.due("what is seen", probe.view(), "0 | -1 -1 -1 -1 -1 |  | 3 3 4 " + type + " -1");
            int kind = type;
            probe.refuses("row of the empty text", () -> probe.guard().row(kind), Probe.ILLEGAL_ARGUMENT);
        }
    }

    /** Records of which the first one that is there tells which rows are left. */
    private static Probe records(int count) {
        Probe probe = new Probe();
        for (int k = 0; k < count; k++) {
            probe.row(0, "h.e 1.0.0." + k);
        }
        return probe;
    }

    private static void dropOfEachRow() {
        Probe.sentence("Row k goes, those behind it move up: true");
        for (int gone = 0; gone < 15; gone++) {
            Probe probe = records(15);
            probe.row(2, "d.e v=spf1 a:h.e -all");
            Probe.due("drop(" + gone + ")", probe.guard().drop(gone), true);
            Probe.due("rows(-1)", probe.guard().rows(-1), 15);
            Probe.due("rows(13)", probe.guard().rows(13), 0);
            Probe.due("rows(14)", probe.guard().rows(14), 2);
            Probe.due("rows(15)", probe.guard().rows(15), -1);
            for (int k = 0; k < 15; k++) {
                Probe.due("check of 1.0.0." + k, probe.check("1.0.0." + k, "d.e"), k == gone ? 3 : 2);
            }
        }
        Probe last = records(1);
        last.row(2, "d.e v=spf1 a:h.e -all");
        Probe.due("drop(1)", last.guard().drop(1), true);
        Probe.due("what is seen", last.view(), "0 | -1 -1 -1 -1 -1 |  | 1 0 -1");
        Probe.due("check", last.check("1.0.0.0", "d.e"), 0);
    }

    private static void dropOfNone() {
        Probe.sentence("false if there is none such");
        for (int count = 0; count <= 16; count++) {
            Probe probe = records(count);
            probe.text("keep");
            String before = probe.view();
            Probe.due("drop(-1)", probe.guard().drop(-1), false);
            Probe.due("drop(" + count + ")", probe.guard().drop(count), false);
            Probe.due("drop(" + (count + 1) + ")", probe.guard().drop(count + 1), false);
            for (int k : FAR) {
                Probe.due("drop(" + k + ")", probe.guard().drop(k), false);
            }
            Probe.due("what is seen", probe.view(), before);
            for (int left = count - 1; left >= 0; left--) {
                Probe.due("drop(" + left + ")", probe.guard().drop(left), true);
                Probe.due("drop(" + left + ") again", probe.guard().drop(left), false);
                Probe.due("rows(-1)", probe.guard().rows(-1), left);
            }
            Probe.due("drop(0) of none", probe.guard().drop(0), false);
            Probe.due("length", probe.guard().length(), 4);
        }
    }

    private static void rowsOfEachTable() {
        Probe.sentence("How many rows there are (k = -1), or the type of row k; NONE if there is none such.");
        Probe probe = new Probe();
        for (int count = 0; count <= 16; count++) {
            Probe.due("rows(-1)", probe.guard().rows(-1), count);
            Probe.due("rows(-2)", probe.guard().rows(-2), -1);
            Probe.due("rows(" + count + ")", probe.guard().rows(count), -1);
            for (int k = Math.max(0, count - 2); k < count; k++) {
                Probe.due("rows(" + k + ")", probe.guard().rows(k), k % 5);
            }
            for (int k : FAR) {
                Probe.due("rows(" + k + ")", probe.guard().rows(k), -1);
            }
            if (count < 16) {
                probe.row(count % 5, "n" + count + DATA[count % 5]);
            }
        }
    }

    private static void rowsStayInOrder() {
        Probe.sentence("To ASK for a name and a type gives the rows with these, in their order");
        Probe probe = Probe.of("1 d.e x.e", "0 y.e 1.2.3.4", "1 d.e y.e", "2 d.e v=spf1 mx", "0 x.e 1.2.3.4");
        probe.checks("1.2.3.4", "d.e", "2 1 0 0 1 x.e");
        Probe.due("drop(0)", probe.guard().drop(0), true);
        probe.checks("1.2.3.4", "d.e", "2 1 0 0 1 y.e");
        Probe.due("row(1)", probe.row(1, "d.e x.e"), 5);
        probe.checks("1.2.3.4", "d.e", "2 1 0 0 1 y.e");
        Probe.due("drop(1)", probe.guard().drop(1), true);
        probe.checks("1.2.3.4", "d.e", "2 1 0 0 1 x.e");
    }

    private static void latestStays() {
        Probe.sentence("About the latest check: rows that come and go leave what is told of it");
        Probe probe = Probe.of("2 d.e v=spf1 a:v.e -all");
        probe.check("1.2.3.4", "d.e");
        probe.row(0, "v.e 1.2.3.4");
        Probe.due("what is seen after row", probe.view(), "0 | 3 1 1 1 1 | v.e | 2 2 0 -1");
        probe.text("keep");
        Probe.due("drop(0)", probe.guard().drop(0), true);
        Probe.due("what is seen after drop", probe.view(), "4 | 3 1 1 1 1 | v.e | 1 0 -1");
    }
}
