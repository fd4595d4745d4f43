import java.util.ArrayList;
import java.util.Collections;
import java.util.List;
import java.util.regex.Matcher;
import java.util.regex.Pattern;

/** The document once more, written with texts and patterns, for ModelTest to compare with. */
final class Model {
    private static final String LABEL = "[a-z0-9_-]{1,16}";
    private static final Pattern NAME = Pattern.compile(LABEL + "(\\." + LABEL + ")*");
    private static final String BYTE = "(0|[1-9]|[1-9][0-9]|1[0-9][0-9]|2[0-4][0-9]|25[0-5])";
    private static final String ADDRESS = BYTE + "\\." + BYTE + "\\." + BYTE + "\\." + BYTE;
    private static final String BITS = "(?:/(?<n>[0-9]|[12][0-9]|3[0-2]))?";
    private static final String MACRO = "%\\{([dio])([1-9]?)(r?)\\}";
    private static final String TARGET = "(?:[!-$&-~]|%%|%\\{[dio][1-9]?r?\\})";
    private static final String PLAIN = "(?<t>(?:[!-$&-.0-~]|%%|%\\{[dio][1-9]?r?\\})+)";
    private static final Pattern MODIFIER = Pattern.compile("(?<m>[a-z][a-z0-9._-]*)=(?<t>" + TARGET + "*)");
    private static final Pattern[] MECHANISMS = {
        Pattern.compile("[-+?~]?(?<m>all)"),
        Pattern.compile("[-+?~]?(?<m>include|exists):" + PLAIN),
        Pattern.compile("[-+?~]?(?<m>a|mx)(?::" + PLAIN + ")?" + BITS),
        Pattern.compile("[-+?~]?(?<m>ip4):(?<t>" + ADDRESS + ")" + BITS),
    };
    private static final Pattern POLICY = Pattern.compile("v=DMARC1((; *[a-z]+=[^ ;]+ *)|(; *))*");
    private static final Pattern TAG = Pattern.compile("; *([a-z]+)=([^ ;]+)");

    private static final class Stop extends RuntimeException {
        private static final long serialVersionUID = 1;
        final int result;

        Stop(int result) {
            this.result = result;
        }
    }

    private record Entry(int type, String name, String data) {
    }

    private String text = "";
    private final List<Entry> table = new ArrayList<>();
    private String asked = "";
    private String first = "";
    private int address;
    private int result = -1;
    private int lookups;
    private int voids;
    private int matched;
    private int checks;

    private static boolean isName(String text) {
        return text.length() <= 48 && NAME.matcher(text).matches();
    }

    private static String written(int address) {
        return (address >>> 24) + "." + (address >>> 16 & 255) + "." + (address >>> 8 & 255) + "." + (address & 255);
    }

    private static boolean sameBits(int one, String other, int bits) {
        String left = String.format("%32s", Integer.toBinaryString(one)).replace(' ', '0');
        String right = String.format("%32s", Integer.toBinaryString(Probe.address(other))).replace(' ', '0');
        return left.substring(0, bits).equals(right.substring(0, bits));
    }

    boolean type(long part) {
        StringBuilder more = new StringBuilder();
        for (int k = 7; k >= 0; k--) {
            char c = (char) (part >>> 8 * k & 255);
            if (c != 0) {
                more.append(c);
            }
        }
        if (!more.toString().matches("[ -~]*") || text.length() + more.length() > 100) {
            return false;
        }
        text += more;
        return true;
    }

    void wipe() {
        text = "";
    }

    int row(int type) {
        int blank = text.indexOf(' ');
        String name = blank < 0 ? text : text.substring(0, blank);
        String data = blank < 0 ? null : text.substring(blank + 1);
        boolean good = isName(name) && switch (type) {
            case 0 -> data != null && data.matches(ADDRESS);
            case 1 -> data != null && isName(data);
            case 2 -> data != null && !data.isEmpty();
            case 3, 4 -> data == null;
            default -> false;
        };
        if (!good) {
            return Probe.ILLEGAL_ARGUMENT;
        }
        if (table.size() == 16) {
            return Probe.ILLEGAL_STATE;
        }
        table.add(new Entry(type, name, data));
        text = "";
        return table.size();
    }

    boolean drop(int k) {
        if (k < 0 || k >= table.size()) {
            return false;
        }
        table.remove(k);
        return true;
    }

    private List<String> ask(String name, int type) {
        asked = name;
        List<String> found = new ArrayList<>();
        for (Entry entry : table) {
            if (entry.name.equals(name) && entry.type == 3) {
                throw new Stop(5);
            }
            if (entry.name.equals(name) && entry.type == type) {
                found.add(entry.data);
            }
        }
        return found;
    }

    private List<String> askOrVoid(String name, int type) {
        List<String> found = ask(name, type);
        if (found.isEmpty() && ++voids == 3) {
            throw new Stop(6);
        }
        return found;
    }

    int check(int from) {
        if (!isName(text)) {
            return Probe.ILLEGAL_ARGUMENT;
        }
        first = text;
        text = "";
        address = from;
        asked = "";
        lookups = 0;
        voids = 0;
        matched = -1;
        checks = 0;
        try {
            result = checked(first, true);
        } catch (Stop stop) {
            result = stop.result;
        }
        return result;
    }

    private int checked(String domain, boolean outermost) {
        checks++;
        if (!domain.contains(".")) {
            return 0;
        }
        List<String> records = ask(domain, 2);
        records.removeIf(data -> !(data + " ").startsWith("v=spf1 "));
        if (records.isEmpty()) {
            return 0;
        }
        if (records.size() > 1) {
            throw new Stop(6);
        }
        List<String> mechanisms = new ArrayList<>();
        String redirect = null;
        for (String term : records.get(0).substring(6).split(" +")) {
            Matcher modifier = MODIFIER.matcher(term);
            if (term.isEmpty()) {
                continue;
            }
            if (modifier.matches()) {
                if (modifier.group("m").equals("redirect")) {
                    if (redirect != null || modifier.group("t").isEmpty()) {
                        throw new Stop(6);
                    }
                    redirect = modifier.group("t");
                }
            } else {
                mechanism(term);
                mechanisms.add(term);
            }
        }
        for (int k = 0; k < mechanisms.size(); k++) {
            if (matches(mechanism(mechanisms.get(k)), domain)) {
                matched = outermost ? k : matched;
                int sign = "-?~".indexOf(mechanisms.get(k).charAt(0));
                return sign < 0 ? 2 : new int[] {3, 1, 4}[sign];
            }
        }
        if (redirect == null) {
            return 1;
        }
        lookUp();
        return inner(expand(redirect, domain));
    }

    private static Matcher mechanism(String term) {
        for (Pattern pattern : MECHANISMS) {
            Matcher matcher = pattern.matcher(term);
            if (matcher.matches()) {
                return matcher;
            }
        }
        throw new Stop(6);
    }

    private void lookUp() {
        if (lookups == 10) {
            throw new Stop(6);
        }
        lookups++;
    }

    private int inner(String domain) {
        if (!isName(domain)) {
            throw new Stop(6);
        }
        int inner = checked(domain, false);
        if (inner == 0) {
            throw new Stop(6);
        }
        return inner;
    }

    private boolean matches(Matcher mechanism, String domain) {
        String kind = mechanism.group("m");
        if (kind.equals("all")) {
            return true;
        }
        String target = mechanism.group("t");
        int bits = 32;
        if (!kind.equals("include") && !kind.equals("exists") && mechanism.group("n") != null) {
            bits = Integer.parseInt(mechanism.group("n"));
        }
        if (kind.equals("ip4")) {
            return sameBits(address, target, bits);
        }
        lookUp();
        String name = target == null ? domain : expand(target, domain);
        if (kind.equals("include")) {
            return inner(name) == 2;
        }
        if (!isName(name)) {
            return false;
        }
        if (kind.equals("exists")) {
            return !askOrVoid(name, 0).isEmpty();
        }
        if (kind.equals("a")) {
            return hosts(name, bits);
        }
        List<String> mails = askOrVoid(name, 1);
        for (String mail : mails.subList(0, Math.min(10, mails.size()))) {
            if (hosts(mail, bits)) {
                return true;
            }
        }
        return false;
    }

    private boolean hosts(String name, int bits) {
        return askOrVoid(name, 0).stream().anyMatch(host -> sameBits(address, host, bits));
    }

    private String expand(String target, String domain) {
        Matcher macro = Pattern.compile("%%|" + MACRO).matcher(target);
        return macro.replaceAll(found -> {
            if (found.group().equals("%%")) {
                return "%";
            }
            String source = switch (found.group(1)) {
                case "d" -> domain;
                case "i" -> written(address);
                default -> first;
            };
            List<String> parts = new ArrayList<>(List.of(source.split("\\.")));
            if (!found.group(3).isEmpty()) {
                Collections.reverse(parts);
            }
            int most = found.group(2).isEmpty() ? parts.size() : Integer.parseInt(found.group(2));
            return String.join(".", parts.subList(Math.max(0, parts.size() - most), parts.size()));
        });
    }

    private String organisation(String name) {
        String longest = "";
        for (Entry entry : table) {
            if (entry.type == 4 && ("." + name).endsWith("." + entry.name) && entry.name.length() > longest.length()) {
                longest = entry.name;
            }
        }
        if (longest.equals(name)) {
            return name;
        }
        int more = longest.isEmpty() ? 2 : longest.split("\\.").length + 1;
        String[] labels = name.split("\\.");
        List<String> end = List.of(labels).subList(Math.max(0, labels.length - more), labels.length);
        return String.join(".", end);
    }

    /** The value of the first tag of the name, the fallback without one; null if it is not of the form. */
    private static String tag(String data, String name, String fallback, String form) {
        Matcher tag = TAG.matcher(data);
        while (tag.find()) {
            if (tag.group(1).equals(name)) {
                return tag.group(2).matches(form) ? tag.group(2) : null;
            }
        }
        return fallback;
    }

    /** p, sp, aspf and pct of a policy, or null. */
    private static String[] tags(String data) {
        if (!POLICY.matcher(data).matches()) {
            return null;
        }
        String action = "none|quarantine|reject";
        String p = tag(data, "p", null, action);
        String sp = tag(data, "sp", p, action);
        String aspf = tag(data, "aspf", "r", "[rs]");
        String pct = tag(data, "pct", "100", "0|[1-9][0-9]?|100");
        return p == null || sp == null || aspf == null || pct == null ? null : new String[] {p, sp, aspf, pct};
    }

    private String[] single(String name) {
        List<String[]> found = new ArrayList<>();
        for (String data : ask("_dmarc." + name, 2)) {
            if (tags(data) != null) {
                found.add(tags(data));
            }
        }
        return found.size() == 1 ? found.get(0) : null;
    }

    int policy(int chance) {
        if (!isName(text) || chance < 0 || chance > 99) {
            return Probe.ILLEGAL_ARGUMENT;
        }
        if (result == -1) {
            return Probe.ILLEGAL_STATE;
        }
        String from = text;
        text = "";
        try {
            return verdict(from, chance);
        } catch (Stop stop) {
            return stop.result;
        }
    }

    private int verdict(String from, int chance) {
        String above = organisation(from);
        String[] tags = single(from);
        int which = 0;
        if (tags == null && !above.equals(from)) {
            tags = single(above);
            which = 1;
        }
        if (tags == null) {
            return 0;
        }
        boolean strict = tags[2].equals("s");
        if (result == 2 && (strict ? first.equals(from) : organisation(first).equals(above))) {
            return 1;
        }
        int verdict = List.of("none", "quarantine", "reject").indexOf(tags[which]) + 2;
        return verdict > 2 && chance >= Integer.parseInt(tags[3]) ? verdict - 1 : verdict;
    }

    /** The same as that of a Probe. */
    String glance(int at) {
        StringBuilder all = new StringBuilder();
        all.append(text.length()).append(" | ");
        int[] latest = result == -1 ? new int[] {-1, -1, -1, -1, -1} : new int[] {result, lookups, voids, matched, checks};
        for (int w = 0; w < 5; w++) {
            all.append(w == 0 ? "" : " ").append(latest[w]);
        }
        all.append(" | ").append(asked(-1)).append(' ').append(asked(at));
        return all.append(" | ").append(rows(-1)).append(' ').append(rows(at)).toString();
    }

    private int asked(int i) {
        if (i == -1 && !asked.isEmpty()) {
            return asked.length();
        }
        return i >= 0 && i < asked.length() ? asked.charAt(i) : -1;
    }

    private int rows(int k) {
        if (k == -1) {
            return table.size();
        }
        return k >= 0 && k < table.size() ? table.get(k).type : -1;
    }
}
