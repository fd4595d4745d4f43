import java.util.function.IntSupplier;

/** A MailGuard with texts for the parts that are typed, and the count of answers that are not as due. */
final class Probe {
    static final int ILLEGAL_ARGUMENT = -1001;
    static final int ILLEGAL_STATE = -1002;

    private static int wrong = 0;

    final MailGuard guard = new MailGuard();

    static void due(String call, Object got, Object want) {
        if (!got.equals(want)) {
            wrong++;
            System.out.println(call + " answered " + got + ", due is " + want);
        }
    }

    static void end() {
        if (wrong != 0) {
            System.out.println(wrong + " answers are not as due");
            System.exit(1);
        }
    }

    /** The eight bytes of the first characters of the text, the rest of them 0. */
    static long part(String text) {
        long part = 0;
        for (int i = 0; i < 8; i++) {
            part = part << 8 | (i < text.length() ? text.charAt(i) : 0);
        }
        return part;
    }

    static int address(String written) {
        int address = 0;
        for (String number : written.split("\\.")) {
            address = address << 8 | Integer.parseInt(number);
        }
        return address;
    }

    static int caught(IntSupplier call) {
        try {
            return call.getAsInt();
        } catch (IllegalArgumentException e) {
            return ILLEGAL_ARGUMENT;
        } catch (IllegalStateException e) {
            return ILLEGAL_STATE;
        }
    }

    Probe text(String text) {
        guard.wipe();
        for (int i = 0; i < text.length(); i += 8) {
            guard.type(part(text.substring(i)));
        }
        return this;
    }

    int row(int type, String text) {
        text(text);
        return caught(() -> guard.row(type));
    }

    int check(String address, String domain) {
        text(domain);
        return caught(() -> guard.check(address(address)));
    }

    int policy(int chance, String name) {
        text(name);
        return caught(() -> guard.policy(chance));
    }

    String asked() {
        StringBuilder name = new StringBuilder();
        for (int i = 0; i < guard.asked(-1); i++) {
            name.append((char) guard.asked(i));
        }
        return name.toString();
    }

    /** The five answers about the latest check. */
    String latest() {
        StringBuilder all = new StringBuilder();
        for (int w = 0; w < 5; w++) {
            all.append(w == 0 ? "" : " ").append(guard.latest(w));
        }
        return all.toString();
    }

    /** All that can be seen without a change. */
    String view() {
        StringBuilder all = new StringBuilder();
        all.append(guard.length()).append(" | ").append(latest()).append(" | ").append(asked()).append(" |");
        for (int k = -1; k <= 16; k++) {
            all.append(' ').append(guard.rows(k));
        }
        return all.toString();
    }
}
