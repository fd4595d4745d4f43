import java.util.function.IntSupplier;

/** A MailGuard with texts for the parts that are typed, and the count of answers that are not as due. */
final class Probe {
    static final int ILLEGAL_ARGUMENT = -1001;
    static final int ILLEGAL_STATE = -1002;

    // What an object answers beyond so many calls is free, so no test may go there.
    private static final int CALLS = 512;

    private static int wrong = 0;
    private static String sentence = "";

    private final MailGuard guard = new MailGuard();
    private int calls = 0;

    /** The words of the document that the answers from here on are due by. */
    static void sentence(String words) {
        sentence = words;
    }

    static void due(String call, Object got, Object want) {
        if (!got.equals(want)) {
            wrong++;
            String by = sentence.isEmpty() ? "" : " (" + sentence + ")";
            System.out.println(call + " answered " + got + ", due is " + want + by);
        }
    }

    static void end() {
        if (wrong != 0) {
            System.out.println(wrong + " answers are not as due");
            System.exit(1);
        }
    }

    /** The eight bytes of the first characters of the text, the rest of them 0. */
    static long part(String text) {
        long part = 0;
        for (int i = 0; i < 8; i++) {
            part = part << 8 | (i < text.length() ? text.charAt(i) : 0);
        }
        return part;
    }

    static int address(String written) {
        int address = 0;
        for (String number : written.split("\\.")) {
            address = address << 8 | Integer.parseInt(number);
        }
        return address;
    }

    static int caught(IntSupplier call) {
        try {
            return call.getAsInt();
        } catch (IllegalArgumentException e) {
            return ILLEGAL_ARGUMENT;
        } catch (IllegalStateException e) {
            return ILLEGAL_STATE;
        }
    }

    /** A table of rows, each written as its type, a blank and its text. */
    static Probe of(String... rows) {
        Probe probe = new Probe();
        for (int k = 0; k < rows.length; k++) {
            int type = rows[k].charAt(0) - '0';
            due("row '" + rows[k] + "'", probe.row(type, rows[k].substring(2)), k + 1);
        }
        return probe;
    }

    /** For one call. */
    MailGuard guard() {
        calls++;
        if (calls == CALLS + 1) {
            due("calls of one object", calls, CALLS);
        }
        return guard;
    }

    int calls() {
        return calls;
    }

    Probe text(String text) {
        guard().wipe();
        return more(text);
    }

    /** The text typed behind what stands there. */
    Probe more(String text) {
        for (int i = 0; i < text.length(); i += 8) {
            guard().type(part(text.substring(i)));
        }
        return this;
    }

    int row(int type, String text) {
        text(text);
        return caught(() -> guard().row(type));
    }

    int check(String address, String domain) {
        text(domain);
        return caught(() -> guard().check(address(address)));
    }

    int policy(int chance, String name) {
        text(name);
        return caught(() -> guard().policy(chance));
    }

    /** A check, with the five answers of latest and the name asked for last. */
    void checks(String address, String domain, String want) {
        String call = "check of " + address + " and " + domain;
        int result = check(address, domain);
        due(call, latest() + " " + asked(), want);
        due(call, result, want.charAt(0) - '0');
        due("length after " + call, guard().length(), 0);
    }

    /** A policy, with the name asked for last. */
    void says(int chance, String name, int want, String asked) {
        String call = "policy(" + chance + ") of " + name;
        due(call, policy(chance, name), want);
        due("asked in " + call, asked(), asked);
        due("length after " + call, guard().length(), 0);
    }

    /** A call that throws, and leaves all that can be seen as it is. */
    void refuses(String call, IntSupplier refused, int want) {
        String before = view();
        due(call, caught(refused), want);
        due("what is seen after " + call, view(), before);
    }

    String asked() {
        StringBuilder name = new StringBuilder();
        int length = guard().asked(-1);
        for (int i = 0; i < length; i++) {
            name.append((char) guard().asked(i));
        }
        return name.toString();
    }

    /** The five answers about the latest check. */
    String latest() {
        StringBuilder all = new StringBuilder();
        for (int w = 0; w < 5; w++) {
            all.append(w == 0 ? "" : " ").append(guard().latest(w));
        }
        return all.toString();
    }

    /** All that can be seen without a change. */
    String view() {
        StringBuilder all = new StringBuilder();
        all.append(guard().length()).append(" | ").append(latest()).append(" | ").append(asked()).append(" |");
        int rows = guard().rows(-1);
        all.append(' ').append(rows);
        for (int k = 0; k <= rows; k++) {
            all.append(' ').append(guard().rows(k));
        }
        return all.toString();
    }

    /** A view in ten calls, of one character and one row alone. */
    String glance(int at) {
        return guard().length() + " | " + latest() + " | " + guard().asked(-1) + " " + guard().asked(at)
            + " | " + guard().rows(-1) + " " + guard().rows(at);
    }
}
