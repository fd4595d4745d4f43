/**
 * Says whether a host may send mail for a domain, by the records in a table of names, and what is
 * to be done with a mail by the policy of the domain that it says it is from.
 *
 * <p>All buffers are made once, with the object: no call makes anything new.
 */
public final class MailGuard {
    public static final int NONE = -1;

    private static final int TEXT_LIMIT = 100;
    private static final int NAME_LIMIT = 48;
    // The policy of a name is asked for with _dmarc. ahead of it.
    private static final int ASKED_LIMIT = NAME_LIMIT + 7;
    private static final int LABEL_LIMIT = 16;
    private static final int ROW_LIMIT = 16;
    private static final int CHANCE_LIMIT = 99;

    private static final int HOST = 0;
    private static final int MAIL = 1;
    private static final int TEXT = 2;
    private static final int BROKEN = 3;
    private static final int SUFFIX = 4;

    private static final int NO_RECORD = 0;
    private static final int NEUTRAL = 1;
    private static final int PASS = 2;
    private static final int FAIL = 3;
    private static final int SOFT_FAIL = 4;
    private static final int TEMPORARY_ERROR = 5;
    private static final int PERMANENT_ERROR = 6;

    // What a search or a mechanism says; the two errors stand beside these.
    private static final int NO = 0;
    private static final int YES = 1;

    private final Text text = new Text(TEXT_LIMIT);
    private final Table table = new Table();
    private final Checker checker = new Checker(table);
    private final Judge judge = new Judge(table, checker);

    public MailGuard() {
    }

    public boolean type(long part) {
        int added = 0;
        for (int shift = 56; shift >= 0; shift -= 8) {
            int code = byteAt(part, shift);
            if (code != 0) {
                if (code < 32 || code > 126) {
                    return false;
                }
                added++;
            }
        }
        if (text.size() + added > TEXT_LIMIT) {
            return false;
        }
        for (int shift = 56; shift >= 0; shift -= 8) {
            int code = byteAt(part, shift);
            if (code != 0) {
                text.add((char) code);
            }
        }
        return true;
    }

    public void wipe() {
        text.clear();
    }

    public int length() {
        return text.size();
    }

    public int row(int type) throws IllegalArgumentException, IllegalStateException {
        if (!textIsRow(type)) {
            throw new IllegalArgumentException();
        }
        if (table.count() >= ROW_LIMIT) {
            throw new IllegalStateException();
        }
        table.append(type, text);
        text.clear();
        return table.count();
    }

    public boolean drop(int k) {
        return table.remove(k);
    }

    public int check(int address) throws IllegalArgumentException {
        if (!text.isName()) {
            throw new IllegalArgumentException();
        }
        checker.begin(address, text);
        text.clear();
        int result = checker.evaluate(0);
        checker.end(result);
        return result;
    }

    public int latest(int w) {
        if (!checker.hasResult()) {
            return NONE;
        }
        switch (w) {
            case 0:
                return checker.result();
            case 1:
                return checker.lookups();
            case 2:
                return checker.voids();
            case 3:
                return checker.matched();
            case 4:
                return checker.checks();
            default:
                return NONE;
        }
    }

    public int asked(int i) {
        Text name = table.lastAsked();
        if (name.size() == 0) {
            return NONE;
        }
        if (i == -1) {
            return name.size();
        }
        return i >= 0 && i < name.size() ? name.at(i) : NONE;
    }

    public int policy(int chance) throws IllegalArgumentException, IllegalStateException {
        if (!text.isName() || chance < 0 || chance > CHANCE_LIMIT) {
            throw new IllegalArgumentException();
        }
        if (!checker.hasResult()) {
            throw new IllegalStateException();
        }
        int verdict = judge.verdict(text, chance);
        text.clear();
        return verdict;
    }

    public int rows(int k) {
        if (k == -1) {
            return table.count();
        }
        Row row = table.at(k);
        return row == null ? NONE : row.kind;
    }

    private static int byteAt(long part, int shift) {
        return (int) (part >>> shift) & 255;
    }

    private boolean textIsRow(int type) {
        int nameEnd = text.find(' ', 0, text.size());
        if (!text.isName(0, nameEnd)) {
            return false;
        }
        int data = nameEnd + 1;
        switch (type) {
            case HOST:
                return text.address(data, text.size()) != NONE;
            case MAIL:
                return text.isName(data, text.size());
            case TEXT:
                return data < text.size();
            case BROKEN:
            case SUFFIX:
                return nameEnd == text.size();
            default:
                return false;
        }
    }

    /** A row of characters with a limit, and the forms that are looked for in a part of it. */
    private static final class Text {
        private final char[] chars;
        private int size;

        Text(int limit) {
            chars = new char[limit];
        }

        int size() {
            return size;
        }

        /** Code 0 stands for no character, so that a look beyond the end meets none of the forms. */
        char at(int i) {
            return i >= 0 && i < size ? chars[i] : 0;
        }

        void clear() {
            size = 0;
        }

        /** What would go beyond the limit is left out. */
        void add(char c) {
            if (size < chars.length) {
                chars[size] = c;
                size++;
            }
        }

        void addPart(Text other, int from, int to) {
            for (int i = from; i < to && i < other.size && size < chars.length; i++) {
                chars[size] = other.chars[i];
                size++;
            }
        }

        void addWord(String word) {
            for (int i = 0; i < word.length(); i++) {
                add(word.charAt(i));
            }
        }

        /** The number is below 256. */
        void addByte(int number) {
            if (number >= 100) {
                add((char) ('0' + number / 100));
            }
            if (number >= 10) {
                add((char) ('0' + number / 10 % 10));
            }
            add((char) ('0' + number % 10));
        }

        /** The first parts of the source, the last of them ahead. */
        void addReversed(Text source, int parts) {
            int end = source.endOfFirst(parts);
            for (int i = end - 1; i >= -1; i--) {
                if (i == -1 || source.at(i) == '.') {
                    addPart(source, i + 1, end);
                    if (i >= 0) {
                        add('.');
                    }
                    end = i;
                }
            }
        }

        /** Where the first so many parts end; the whole length if there are not more. */
        int endOfFirst(int parts) {
            int dots = 0;
            for (int i = 0; i < size; i++) {
                if (chars[i] == '.') {
                    dots++;
                    if (dots == parts) {
                        return i;
                    }
                }
            }
            return size;
        }

        /** Where the last so many parts begin; 0 if there are not more. */
        int startOfLast(int parts) {
            int dots = 0;
            for (int i = size - 1; i >= 0; i--) {
                if (chars[i] == '.') {
                    dots++;
                    if (dots == parts) {
                        return i + 1;
                    }
                }
            }
            return 0;
        }

        /** Where the part begins whose . stands just ahead of start. */
        int startOfPartAhead(int start) {
            for (int i = start - 2; i >= 0; i--) {
                if (at(i) == '.') {
                    return i + 1;
                }
            }
            return 0;
        }

        /** Whether this from its start on is the other from its start on. */
        boolean same(int start, Text other, int otherStart) {
            if (start < 0 || otherStart < 0 || size - start != other.size - otherStart) {
                return false;
            }
            for (int i = start; i < size; i++) {
                if (chars[i] != other.chars[otherStart + i - start]) {
                    return false;
                }
            }
            return true;
        }

        int startWithoutBlanks(int from, int to) {
            for (int i = from; i < to; i++) {
                if (at(i) != ' ') {
                    return i;
                }
            }
            return to;
        }

        int endWithoutBlanks(int from, int to) {
            for (int i = to; i > from; i--) {
                if (at(i - 1) != ' ') {
                    return i;
                }
            }
            return from;
        }

        boolean isWord(int from, int to, String word) {
            if (to - from != word.length()) {
                return false;
            }
            for (int i = from; i < to; i++) {
                if (at(i) != word.charAt(i - from)) {
                    return false;
                }
            }
            return true;
        }

        /** Where c stands first; the end of the part if it does not. */
        int find(char c, int from, int to) {
            for (int i = from; i < to; i++) {
                if (at(i) == c) {
                    return i;
                }
            }
            return to;
        }

        boolean isName() {
            return isName(0, size);
        }

        boolean isName(int from, int to) {
            if (to - from > NAME_LIMIT) {
                return false;
            }
            int label = 0;
            for (int i = from; i < to; i++) {
                char c = at(i);
                if (c == '.') {
                    if (label == 0) {
                        return false;
                    }
                    label = 0;
                } else {
                    label++;
                    if (label > LABEL_LIMIT || !isLabelCharacter(c)) {
                        return false;
                    }
                }
            }
            return label > 0;
        }

        /** The number that is written there, NONE if there is none or it is above the most. */
        int number(int from, int to, int most) {
            int digits = to - from;
            if (digits < 1 || digits > 3 || (digits > 1 && at(from) == '0')) {
                return NONE;
            }
            int number = 0;
            for (int i = from; i < to; i++) {
                char c = at(i);
                if (c < '0' || c > '9') {
                    return NONE;
                }
                number = number * 10 + (c - '0');
            }
            return number <= most ? number : NONE;
        }

        /** The address that is written there, as 32 bits of a long, so that NONE is none of them. */
        long address(int from, int to) {
            long address = 0;
            int numbers = 0;
            int start = from;
            for (int i = from; i <= to; i++) {
                if (i == to || at(i) == '.') {
                    int number = number(start, i, 255);
                    if (number == NONE || numbers == 4) {
                        return NONE;
                    }
                    address = address << 8 | number;
                    numbers++;
                    start = i + 1;
                }
            }
            return numbers == 4 ? address : NONE;
        }

        static boolean isLetter(char c) {
            return c >= 'a' && c <= 'z';
        }

        static boolean isLabelCharacter(char c) {
            return (c >= 'a' && c <= 'z') || (c >= '0' && c <= '9') || c == '-' || c == '_';
        }
    }

    /** Its fields are read by all, and set by fill alone. */
    private static final class Row {
        private int kind;
        private final Text name = new Text(NAME_LIMIT);
        // A name of one character and a blank stand ahead of the longest data.
        private final Text data = new Text(TEXT_LIMIT - 2);
        private int address;

        void fill(int newKind, Text text) {
            int nameEnd = text.find(' ', 0, text.size());
            kind = newKind;
            name.clear();
            name.addPart(text, 0, nameEnd);
            data.clear();
            data.addPart(text, nameEnd + 1, text.size());
            address = newKind == HOST ? (int) text.address(nameEnd + 1, text.size()) : 0;
        }

        boolean is(int wantedKind, Text wantedName) {
            return kind == wantedKind && name.same(0, wantedName, 0);
        }
    }

    private static final class Table {
        private static final int BROKEN_NAME = -1;

        private final Row[] rows = new Row[ROW_LIMIT];
        private int count;
        private final Text lastAsked = new Text(ASKED_LIMIT);

        Table() {
            for (int k = 0; k < ROW_LIMIT; k++) {
                rows[k] = new Row();
            }
        }

        int count() {
            return count;
        }

        Row at(int k) {
            return k >= 0 && k < count ? rows[k] : null;
        }

        Text lastAsked() {
            return lastAsked;
        }

        void forgetAsked() {
            lastAsked.clear();
        }

        void append(int kind, Text text) {
            if (count < ROW_LIMIT) {
                rows[count].fill(kind, text);
                count++;
            }
        }

        boolean remove(int k) {
            if (k < 0 || k >= count) {
                return false;
            }
            Row gone = rows[k];
            for (int i = k + 1; i < count; i++) {
                rows[i - 1] = rows[i];
            }
            count--;
            // It waits behind the others, to be filled again.
            rows[count] = gone;
            return true;
        }

        /** How many rows the name has of the kind, or BROKEN_NAME. */
        int ask(Text name, int kind) {
            lastAsked.clear();
            lastAsked.addPart(name, 0, name.size());
            int found = 0;
            for (int k = 0; k < count; k++) {
                if (rows[k].name.same(0, name, 0)) {
                    if (rows[k].kind == BROKEN) {
                        return BROKEN_NAME;
                    }
                    found += rows[k].kind == kind ? 1 : 0;
                }
            }
            return found;
        }

        /** Where in the name its organisation begins, which is always an end of it. */
        int organisation(Text name) {
            int start = name.size();
            for (int k = 0; k < count; k++) {
                if (rows[k].kind == SUFFIX) {
                    start = Math.min(start, startOfSuffix(name, rows[k].name));
                }
            }
            if (start == name.size()) {
                return name.startOfLast(2);
            }
            return name.startOfPartAhead(start);
        }

        private static int startOfSuffix(Text name, Text suffix) {
            int start = name.size() - suffix.size();
            boolean ends = name.same(start, suffix, 0);
            return ends && (start == 0 || name.at(start - 1) == '.') ? start : name.size();
        }
    }

    /** One term of a record: its fields are read by all, and set by read alone. */
    private static final class Term {
        private static final int ALL = 0;
        private static final int INCLUDE = 1;
        private static final int A = 2;
        private static final int MX = 3;
        private static final int IP4 = 4;
        private static final int EXISTS = 5;
        private static final int REDIRECT = 6;
        private static final int OTHER_MODIFIER = 7;
        private static final int BITS = 32;

        private int kind;
        private int result;
        private int targetFrom;
        private int targetTo;
        private int bits;
        private int address;

        boolean isMechanism() {
            return kind != REDIRECT && kind != OTHER_MODIFIER;
        }

        boolean hasTarget() {
            return targetFrom < targetTo;
        }

        /** Whether what stands there is a term. */
        boolean read(Text data, int from, int to) {
            int nameEnd = endOfModifierName(data, from, to);
            if (nameEnd != NONE) {
                return readModifier(data, from, nameEnd, to);
            }
            return readMechanism(data, from, to);
        }

        private static int endOfModifierName(Text data, int from, int to) {
            if (!Text.isLetter(data.at(from))) {
                return NONE;
            }
            for (int i = from + 1; i < to; i++) {
                char c = data.at(i);
                if (c == '=') {
                    return i;
                }
                if (c != '.' && !Text.isLabelCharacter(c)) {
                    return NONE;
                }
            }
            return NONE;
        }

        private boolean readModifier(Text data, int from, int nameEnd, int to) {
            kind = data.isWord(from, nameEnd, "redirect") ? REDIRECT : OTHER_MODIFIER;
            targetFrom = nameEnd + 1;
            targetTo = to;
            if (!hasTarget()) {
                return kind != REDIRECT;
            }
            return isTarget(data, targetFrom, targetTo);
        }

        private boolean readMechanism(Text data, int from, int to) {
            int start = readSign(data.at(from)) ? from + 1 : from;
            int slash = data.find('/', start, to);
            int colon = data.find(':', start, slash);
            boolean targeted = colon < slash;
            boolean limited = slash < to;
            kind = kindOf(data, start, colon);
            targetFrom = targeted ? colon + 1 : slash;
            targetTo = slash;
            bits = limited ? data.number(slash + 1, to, BITS) : BITS;
            if (bits == NONE) {
                return false;
            }
            switch (kind) {
                case ALL:
                    return !targeted && !limited;
                case INCLUDE:
                case EXISTS:
                    return !limited && isTarget(data, targetFrom, targetTo);
                case A:
                case MX:
                    return !targeted || isTarget(data, targetFrom, targetTo);
                case IP4:
                    return readAddress(data.address(targetFrom, targetTo));
                default:
                    return false;
            }
        }

        private boolean readAddress(long read) {
            address = (int) read;
            return read != NONE;
        }

        private boolean readSign(char c) {
            switch (c) {
                case '-':
                    result = FAIL;
                    return true;
                case '?':
                    result = NEUTRAL;
                    return true;
                case '~':
                    result = SOFT_FAIL;
                    return true;
                default:
                    result = PASS;
                    return c == '+';
            }
        }

        private static int kindOf(Text data, int from, int to) {
            if (data.isWord(from, to, "all")) {
                return ALL;
            }
            if (data.isWord(from, to, "include")) {
                return INCLUDE;
            }
            if (data.isWord(from, to, "a")) {
                return A;
            }
            if (data.isWord(from, to, "mx")) {
                return MX;
            }
            if (data.isWord(from, to, "ip4")) {
                return IP4;
            }
            return data.isWord(from, to, "exists") ? EXISTS : NONE;
        }

        private static boolean isTarget(Text data, int from, int to) {
            for (int i = from; i < to; i++) {
                if (data.at(i) == '%') {
                    int end = endOfMacro(data, i, to);
                    if (end == NONE) {
                        return false;
                    }
                    i = end;
                }
            }
            return from < to;
        }

        /** The last character of what the % at start begins, NONE if it is not well formed. */
        static int endOfMacro(Text data, int start, int to) {
            int end = start + 1;
            if (data.at(end) == '{') {
                char letter = data.at(start + 2);
                if (letter != 'd' && letter != 'i' && letter != 'o') {
                    return NONE;
                }
                end = start + 3;
                if (data.at(end) >= '1' && data.at(end) <= '9') {
                    end++;
                }
                if (data.at(end) == 'r') {
                    end++;
                }
                return end < to && data.at(end) == '}' ? end : NONE;
            }
            return end < to && data.at(end) == '%' ? end : NONE;
        }
    }

    /** What a check inside a check must not disturb in the outer one. */
    private static final class Level {
        private final Text domain = new Text(NAME_LIMIT);
        private final Term term = new Term();
    }

    /** The check, and what is known of the latest one. */
    private static final class Checker {
        private static final String MARK = "v=spf1";
        private static final int LOOKUP_LIMIT = 10;
        private static final int VOID_LIMIT = 3;
        private static final int MAIL_LIMIT = 10;

        private final Table table;
        // Each level but the first has cost a lookup.
        private final Level[] levels = new Level[LOOKUP_LIMIT + 1];
        // One more than a name may have, so that what is too long is seen to be no name.
        private final Text expanded = new Text(NAME_LIMIT + 1);
        private final Text written = new Text(15);
        private int address;
        private int result = NONE;
        private int lookups;
        private int voids;
        private int matched;
        private int checks;

        Checker(Table table) {
            this.table = table;
            for (int depth = 0; depth < levels.length; depth++) {
                levels[depth] = new Level();
            }
        }

        boolean hasResult() {
            return result != NONE;
        }

        int result() {
            return result;
        }

        int lookups() {
            return lookups;
        }

        int voids() {
            return voids;
        }

        int matched() {
            return matched;
        }

        int checks() {
            return checks;
        }

        Text firstDomain() {
            return levels[0].domain;
        }

        void begin(int newAddress, Text domain) {
            address = newAddress;
            written.clear();
            for (int shift = 24; shift >= 0; shift -= 8) {
                written.addByte(newAddress >>> shift & 255);
                if (shift > 0) {
                    written.add('.');
                }
            }
            firstDomain().clear();
            firstDomain().addPart(domain, 0, domain.size());
            table.forgetAsked();
            lookups = 0;
            voids = 0;
            matched = NONE;
            checks = 0;
        }

        void end(int newResult) {
            result = newResult;
        }

        /** The result for the domain of the level. */
        private int evaluate(int depth) {
            checks++;
            Text domain = levels[depth].domain;
            if (domain.startOfLast(1) == 0) {
                return NO_RECORD;
            }
            if (table.ask(domain, TEXT) == Table.BROKEN_NAME) {
                return TEMPORARY_ERROR;
            }
            Row record = null;
            for (int k = 0; k < table.count(); k++) {
                Row row = table.at(k);
                if (row != null && row.is(TEXT, domain) && isRecord(row.data)) {
                    if (record != null) {
                        return PERMANENT_ERROR;
                    }
                    record = row;
                }
            }
            if (record == null) {
                return NO_RECORD;
            }
            if (!hasTermsAlone(record.data, levels[depth].term)) {
                return PERMANENT_ERROR;
            }
            return goThrough(record.data, depth);
        }

        private static boolean isRecord(Text data) {
            int end = MARK.length();
            return data.isWord(0, Math.min(end, data.size()), MARK)
                    && (data.size() == end || data.at(end) == ' ');
        }

        private static boolean hasTermsAlone(Text data, Term term) {
            int redirects = 0;
            int start = MARK.length();
            for (int i = start; i <= data.size(); i++) {
                if (i == data.size() || data.at(i) == ' ') {
                    if (start < i) {
                        if (!term.read(data, start, i)) {
                            return false;
                        }
                        redirects += term.kind == Term.REDIRECT ? 1 : 0;
                    }
                    start = i + 1;
                }
            }
            return redirects <= 1;
        }

        /** The terms are known to be well formed. */
        private int goThrough(Text data, int depth) {
            Term term = levels[depth].term;
            int mechanisms = 0;
            int redirectFrom = 0;
            int redirectTo = 0;
            int start = MARK.length();
            for (int i = start; i <= data.size(); i++) {
                if (i == data.size() || data.at(i) == ' ') {
                    if (start < i && term.read(data, start, i)) {
                        if (term.isMechanism()) {
                            int match = matches(data, term, depth);
                            if (match == YES) {
                                matched = depth == 0 ? mechanisms : matched;
                                return term.result;
                            }
                            if (match != NO) {
                                return match;
                            }
                            mechanisms++;
                        } else if (term.kind == Term.REDIRECT) {
                            redirectFrom = term.targetFrom;
                            redirectTo = term.targetTo;
                        }
                    }
                    start = i + 1;
                }
            }
            return redirectFrom < redirectTo ? redirected(data, redirectFrom, redirectTo, depth) : NEUTRAL;
        }

        private int redirected(Text data, int from, int to, int depth) {
            if (!spendLookup()) {
                return PERMANENT_ERROR;
            }
            expand(data, from, to, levels[depth].domain);
            return evaluateExpanded(depth);
        }

        /** YES, NO or an error. */
        private int matches(Text data, Term term, int depth) {
            if (term.kind == Term.ALL) {
                return YES;
            }
            if (term.kind == Term.IP4) {
                return sameBits(term.address, address, term.bits) ? YES : NO;
            }
            if (!spendLookup()) {
                return PERMANENT_ERROR;
            }
            Text name = levels[depth].domain;
            if (term.hasTarget()) {
                expand(data, term.targetFrom, term.targetTo, name);
                name = expanded;
            }
            if (term.kind == Term.INCLUDE) {
                return matchOfInclude(evaluateExpanded(depth));
            }
            if (!name.isName()) {
                return NO;
            }
            switch (term.kind) {
                case Term.A:
                    return hostsMatch(name, term.bits);
                case Term.MX:
                    return mailsMatch(name, term.bits);
                default:
                    return matchOfCount(table.ask(name, HOST));
            }
        }

        private boolean spendLookup() {
            if (lookups >= LOOKUP_LIMIT) {
                return false;
            }
            lookups++;
            return true;
        }

        /** The result for the expanded name, which needs a record. */
        private int evaluateExpanded(int depth) {
            int next = depth + 1;
            if (next >= levels.length || !expanded.isName()) {
                return PERMANENT_ERROR;
            }
            Text domain = levels[next].domain;
            domain.clear();
            domain.addPart(expanded, 0, expanded.size());
            int inner = evaluate(next);
            return inner == NO_RECORD ? PERMANENT_ERROR : inner;
        }

        private static int matchOfInclude(int inner) {
            if (inner == TEMPORARY_ERROR || inner == PERMANENT_ERROR) {
                return inner;
            }
            return inner == PASS ? YES : NO;
        }

        /** Whether an asking found rows; one that found none is void. */
        private int matchOfCount(int found) {
            if (found == Table.BROKEN_NAME) {
                return TEMPORARY_ERROR;
            }
            if (found > 0) {
                return YES;
            }
            voids++;
            return voids >= VOID_LIMIT ? PERMANENT_ERROR : NO;
        }

        private int hostsMatch(Text name, int bits) {
            int found = matchOfCount(table.ask(name, HOST));
            if (found != YES) {
                return found;
            }
            for (int k = 0; k < table.count(); k++) {
                Row row = table.at(k);
                if (row != null && row.is(HOST, name) && sameBits(row.address, address, bits)) {
                    return YES;
                }
            }
            return NO;
        }

        private int mailsMatch(Text name, int bits) {
            int found = matchOfCount(table.ask(name, MAIL));
            if (found != YES) {
                return found;
            }
            int tried = 0;
            for (int k = 0; k < table.count() && tried < MAIL_LIMIT; k++) {
                Row row = table.at(k);
                if (row != null && row.is(MAIL, name)) {
                    tried++;
                    int match = hostsMatch(row.data, bits);
                    if (match != NO) {
                        return match;
                    }
                }
            }
            return NO;
        }

        /** A shift by 32 would leave the bits as they are, so no bits at all are told apart. */
        private static boolean sameBits(int one, int other, int bits) {
            return bits == 0 || (one ^ other) >>> (32 - bits) == 0;
        }

        private void expand(Text data, int from, int to, Text domain) {
            expanded.clear();
            for (int i = from; i < to; i++) {
                char c = data.at(i);
                int end = c == '%' ? Term.endOfMacro(data, i, to) : i;
                if (end > i + 1) {
                    expandMacro(data, i, end, domain);
                } else {
                    expanded.add(c);
                }
                i = Math.max(i, end);
            }
        }

        private void expandMacro(Text data, int start, int end, Text domain) {
            char letter = data.at(start + 2);
            char digit = data.at(start + 3);
            Text source = letter == 'd' ? domain : letter == 'i' ? written : firstDomain();
            // No name has so many parts: without a digit all are taken.
            int parts = digit >= '1' && digit <= '9' ? digit - '0' : NAME_LIMIT;
            if (data.at(end - 1) == 'r') {
                expanded.addReversed(source, parts);
            } else {
                expanded.addPart(source, source.startOfLast(parts), source.size());
            }
        }
    }

    /** The tags of a policy. */
    private static final class Policy {
        private static final String MARK = "v=DMARC1";
        private static final int RELAXED = 0;
        private static final int STRICT = 1;

        private int action;
        private int actionBelow;
        private int alignment;
        private int percent;

        int action() {
            return action;
        }

        int actionBelow() {
            return actionBelow == NONE ? action : actionBelow;
        }

        boolean isStrict() {
            return alignment == STRICT;
        }

        int percent() {
            return percent == NONE ? 100 : percent;
        }

        /** Whether the data are a policy. */
        boolean read(Text data) {
            action = NONE;
            actionBelow = NONE;
            alignment = NONE;
            percent = NONE;
            int end = MARK.length();
            if (!data.isWord(0, Math.min(end, data.size()), MARK)) {
                return false;
            }
            if (data.size() > end && data.at(end) != ';') {
                return false;
            }
            int start = end + 1;
            for (int i = start; i <= data.size(); i++) {
                if (i == data.size() || data.at(i) == ';') {
                    int from = data.startWithoutBlanks(start, i);
                    int to = data.endWithoutBlanks(from, i);
                    if (from < to && !readTag(data, from, to)) {
                        return false;
                    }
                    start = i + 1;
                }
            }
            return action != NONE;
        }

        /** The first tag of a name counts, so one that is set already is passed over. */
        private boolean readTag(Text data, int from, int to) {
            int nameEnd = from;
            while (nameEnd < to && Text.isLetter(data.at(nameEnd))) {
                nameEnd++;
            }
            int value = nameEnd + 1;
            if (nameEnd == from || data.at(nameEnd) != '=' || value >= to || data.find(' ', value, to) < to) {
                return false;
            }
            if (action == NONE && data.isWord(from, nameEnd, "p")) {
                action = actionOf(data, value, to);
                return action != NONE;
            }
            if (actionBelow == NONE && data.isWord(from, nameEnd, "sp")) {
                actionBelow = actionOf(data, value, to);
                return actionBelow != NONE;
            }
            if (alignment == NONE && data.isWord(from, nameEnd, "aspf")) {
                alignment = alignmentOf(data, value, to);
                return alignment != NONE;
            }
            if (percent == NONE && data.isWord(from, nameEnd, "pct")) {
                percent = data.number(value, to, 100);
                return percent != NONE;
            }
            return true;
        }

        private static int actionOf(Text data, int from, int to) {
            if (data.isWord(from, to, "none")) {
                return Judge.LET_IN;
            }
            if (data.isWord(from, to, "quarantine")) {
                return Judge.SET_ASIDE;
            }
            return data.isWord(from, to, "reject") ? Judge.TURN_AWAY : NONE;
        }

        private static int alignmentOf(Text data, int from, int to) {
            if (data.isWord(from, to, "r")) {
                return RELAXED;
            }
            return data.isWord(from, to, "s") ? STRICT : NONE;
        }
    }

    /** Finds the policy of a name and says the verdict by it. */
    private static final class Judge {
        private static final int NO_POLICY = 0;
        private static final int ALIGNED = 1;
        private static final int LET_IN = 2;
        private static final int SET_ASIDE = 3;
        private static final int TURN_AWAY = 4;
        private static final int ERROR = 5;

        private final Table table;
        private final Checker checker;
        private final Policy found = new Policy();
        private final Text policyName = new Text(ASKED_LIMIT);

        Judge(Table table, Checker checker) {
            this.table = table;
            this.checker = checker;
        }

        int verdict(Text name, int chance) {
            int organisation = table.organisation(name);
            boolean below = false;
            int search = findPolicy(name, 0);
            if (search == NO && organisation > 0) {
                below = true;
                search = findPolicy(name, organisation);
            }
            if (search == TEMPORARY_ERROR) {
                return ERROR;
            }
            if (search == NO) {
                return NO_POLICY;
            }
            if (isAligned(name, organisation)) {
                return ALIGNED;
            }
            int action = below ? found.actionBelow() : found.action();
            return action > LET_IN && chance >= found.percent() ? action - 1 : action;
        }

        /** YES only if a single policy stands there: of more than one none is to be chosen. */
        private int findPolicy(Text name, int start) {
            policyName.clear();
            policyName.addWord("_dmarc.");
            policyName.addPart(name, start, name.size());
            if (table.ask(policyName, TEXT) == Table.BROKEN_NAME) {
                return TEMPORARY_ERROR;
            }
            int policies = 0;
            Row last = null;
            for (int k = 0; k < table.count(); k++) {
                Row row = table.at(k);
                if (row != null && row.is(TEXT, policyName) && found.read(row.data)) {
                    policies++;
                    last = row;
                }
            }
            // Rows behind it that are no policies were read over it.
            return policies == 1 && last != null && found.read(last.data) ? YES : NO;
        }

        private boolean isAligned(Text name, int organisation) {
            if (checker.result() != PASS) {
                return false;
            }
            Text domain = checker.firstDomain();
            if (found.isStrict()) {
                return domain.same(0, name, 0);
            }
            return domain.same(table.organisation(domain), name, organisation);
        }
    }
}
