/**
 * Reports of incidents: fields filled by acts and by hand, rules over the fields, three signatures
 * one after the other, editions, faults, coded copies, late reports and statistics.
 */
public final class ReportChecks2 {
    private static final int MAX_REPORTS = 30;
    private static final int MAX_INCIDENT = 9_999;
    private static final int KINDS = 5;
    private static final int ACT_KINDS = 10;
    private static final int FIELDS = 20;
    private static final int PERSONS = 20;
    private static final int MAX_VALUE = 99_999;
    private static final int MAX_INSIDE = 99;
    private static final int SIGNATURES = 3;
    private static final int MAX_MINUTE = 99_999;
    private static final int MAX_TICK = 5_000;

    private static final int MAX_TEXT = 300;
    private static final int MAX_SIGNED_BYTES = 8;
    private static final int MAX_RULES = 20;
    private static final int MAX_TERMS = 4;
    private static final int MAX_NUMBER = 99_999;

    private static final int EMPTY_FIELD = 1;
    private static final int BROKEN_RULE = 2;
    private static final int THROWING_RULE = 3;

    /** The longest code is R9999, and twenty fields of at most ten bytes. */
    private static final int MAX_CODE = 206;

    /** Stands for no report, no person, no byte and no place. */
    private static final int NONE = -1;
    /** Stands for no number, no factor and no sum: far below all that can be one. */
    private static final int NO_NUMBER = -1_000_000_000;

    private final Report[] reports = new Report[MAX_REPORTS];
    private int reportCount = 0;
    private final int[] askedByKind = new int[KINDS];
    private final int[] hiddenFromPerson = new int[PERSONS];
    private int minute = 0;

    private final byte[] tape = new byte[MAX_TEXT];
    private int tapeLength = 0;
    private final RuleReader reader = new RuleReader(tape);
    private RuleBook book = new RuleBook();
    private RuleBook spareBook = new RuleBook();
    private int wrongPlace = NONE;

    private final Findings latestCheck = new Findings();
    private final Findings signingCheck = new Findings();
    private final CodeText latestCode = new CodeText();

    public ReportChecks2() {
    }

    public int report(int incident, int kind)
            throws IllegalArgumentException, IndexOutOfBoundsException, UnsupportedOperationException {
        requireKind(kind);
        if (incident < 0 || incident > MAX_INCIDENT) {
            throw new IndexOutOfBoundsException("the incident is not 0 .. 9,999");
        }
        requireRoomForReport();
        return keep(new Report(incident, kind, minute, NONE));
    }

    public void ask(int kind, int field, boolean on) throws IllegalArgumentException {
        requireKind(kind);
        requireField(field);
        askedByKind[kind] = changed(askedByKind[kind], field, on);
    }

    public void field(int report, int field, int value)
            throws IllegalArgumentException, IndexOutOfBoundsException, IllegalStateException {
        Report told = known(report);
        requireField(field);
        if (value < -MAX_VALUE || value > MAX_VALUE) {
            throw new IndexOutOfBoundsException("the value is not -99,999 .. 99,999");
        }
        if (!told.canBeTold(field)) {
            throw new IllegalStateException("the field can't be told");
        }
        told.tell(field, value);
    }

    public boolean act(int report, int kind, int minute)
            throws IllegalArgumentException, IndexOutOfBoundsException, IllegalStateException {
        Report acted = known(report);
        if (kind < 0 || kind >= ACT_KINDS) {
            throw new IllegalArgumentException("no such kind of acts");
        }
        if (minute < 0 || minute > this.minute) {
            throw new IndexOutOfBoundsException("the minute is to come, or below 0");
        }
        requireUnsigned(acted);
        return acted.fillByAct(kind, minute);
    }

    public void inside(int report, int n)
            throws IllegalArgumentException, IndexOutOfBoundsException, IllegalStateException {
        Report entered = known(report);
        if (n < 0 || n > MAX_INSIDE) {
            throw new IndexOutOfBoundsException("the persons inside are not 0 .. 99");
        }
        requireUnsigned(entered);
        entered.personsInside = n;
    }

    public int sign(long bytes, int n) throws IndexOutOfBoundsException, UnsupportedOperationException {
        if (n < 1 || n > MAX_SIGNED_BYTES) {
            throw new IndexOutOfBoundsException("the bytes are not 1 .. 8");
        }
        if (tapeLength + n > MAX_TEXT) {
            throw new UnsupportedOperationException("there would be more than 300 bytes");
        }
        for (int lower = n - 1; lower >= 0; lower--) {
            tape[tapeLength] = (byte) (bytes >>> (8 * lower));
            tapeLength++;
        }
        return tapeLength;
    }

    public int rules() throws IllegalStateException {
        wrongPlace = reader.readInto(spareBook, tapeLength);
        tapeLength = 0;
        if (wrongPlace != NONE) {
            throw new IllegalStateException("the text is wrong");
        }
        RuleBook former = book;
        book = spareBook;
        spareBook = former;
        return book.size;
    }

    public int place() {
        return wrongPlace;
    }

    public int check(int report) throws IllegalArgumentException {
        findWanting(known(report), latestCheck);
        return latestCheck.size;
    }

    public int wanting(int i, int what) throws IllegalArgumentException {
        if (i < 0 || i >= latestCheck.size) {
            throw new IllegalArgumentException("the latest check told no such thing");
        }
        switch (what) {
            case 0:
                return latestCheck.sorts[i];
            case 1:
                return latestCheck.numbers[i];
            default:
                throw new IllegalArgumentException("no such what");
        }
    }

    public int put(int report, int person) throws IllegalArgumentException, IllegalStateException {
        Report signed = known(report);
        requirePerson(person);
        findWanting(signed, signingCheck);
        if (signingCheck.size > 0 || !signed.isReadyFor(person)) {
            throw new IllegalStateException("the report can't be signed by that person");
        }
        signed.addSignature(person);
        return signed.signatures;
    }

    public int edition(int report)
            throws IllegalArgumentException, IllegalStateException, UnsupportedOperationException {
        Report former = known(report);
        requireClosed(former);
        requireRoomForReport();
        Report next = new Report(former.incident, former.kind, minute, report);
        next.copyValues(former);
        return keep(next);
    }

    public void fault(int report, int field) throws IllegalArgumentException, IllegalStateException {
        Report faulty = known(report);
        requireField(field);
        requireClosed(faulty);
        if (has(faulty.openFields, field)) {
            throw new IllegalStateException("the field is open");
        }
        faulty.openFields = changed(faulty.openFields, field, true);
    }

    public void hide(int field, int person, boolean on) throws IllegalArgumentException {
        requireField(field);
        requirePerson(person);
        hiddenFromPerson[person] = changed(hiddenFromPerson[person], field, on);
    }

    public int code(int report, int person) throws IllegalArgumentException {
        Report coded = known(report);
        requirePerson(person);
        latestCode.write(coded, hiddenFromPerson[person]);
        return latestCode.length;
    }

    public int at(int i) throws IndexOutOfBoundsException {
        if (i < 0) {
            throw new IndexOutOfBoundsException("the byte's number is below 0");
        }
        return i < latestCode.length ? latestCode.bytes[i] : NONE;
    }

    public int late(int minutes, int i) throws IndexOutOfBoundsException {
        if (minutes < 0 || minutes > MAX_MINUTE || i < 0) {
            throw new IndexOutOfBoundsException("the minutes, or the number is below 0");
        }
        int before = 0;
        for (int number = 0; number < reportCount; number++) {
            Report report = reports[number];
            if (report != null && report.isLate(this.minute, minutes)) {
                if (before == i) {
                    return number;
                }
                before++;
            }
        }
        return NONE;
    }

    public int count(int field, int low, int high) throws IllegalArgumentException, IndexOutOfBoundsException {
        requireField(field);
        if (low > high) {
            throw new IndexOutOfBoundsException("low is above high");
        }
        int found = 0;
        for (int number = 0; number < reportCount; number++) {
            Report report = reports[number];
            if (report != null && report.isSettled() && report.isBetween(field, low, high)) {
                found++;
            }
        }
        return found;
    }

    public int reportAt(int report, int what) throws IllegalArgumentException {
        Report asked = known(report);
        switch (what) {
            case 0:
                return asked.incident;
            case 1:
                return asked.kind;
            case 2:
                return asked.madeAt;
            case 3:
                return asked.signatures;
            case 4:
                return asked.lastSigner();
            case 5:
                return asked.personsInside;
            case 6:
                return Integer.bitCount(asked.openFields);
            case 7:
                return asked.former;
            default:
                throw new IllegalArgumentException("no such what");
        }
    }

    public int value(int report, int field) throws IllegalArgumentException, IllegalStateException {
        Report asked = known(report);
        requireField(field);
        if (!has(asked.filledFields, field)) {
            throw new IllegalStateException("the field is empty");
        }
        return asked.values[field];
    }

    public int tick(int minutes) throws IndexOutOfBoundsException {
        if (minutes < 1 || minutes > MAX_TICK || minute + minutes > MAX_MINUTE) {
            throw new IndexOutOfBoundsException("the minutes are not 1 .. 5,000, or go beyond 99,999");
        }
        minute += minutes;
        return minute;
    }

    private Report known(int number) {
        if (number < 0 || number >= reportCount) {
            throw new IllegalArgumentException("no such report");
        }
        Report found = reports[number];
        if (found == null) {
            throw new IllegalArgumentException("no such report");
        }
        return found;
    }

    private static void requireKind(int kind) {
        if (kind < 0 || kind >= KINDS) {
            throw new IllegalArgumentException("no such kind");
        }
    }

    private static void requireField(int field) {
        if (field < 0 || field >= FIELDS) {
            throw new IllegalArgumentException("no such field");
        }
    }

    private static void requirePerson(int person) {
        if (person < 0 || person >= PERSONS) {
            throw new IllegalArgumentException("no such person");
        }
    }

    private static void requireUnsigned(Report report) {
        if (report.signatures > 0) {
            throw new IllegalStateException("the report has a signature");
        }
    }

    private static void requireClosed(Report report) {
        if (!report.isClosed()) {
            throw new IllegalStateException("the report is not closed");
        }
    }

    private void requireRoomForReport() {
        if (reportCount >= MAX_REPORTS) {
            throw new UnsupportedOperationException("there are 30 reports");
        }
    }

    /** Only behind requireRoomForReport. */
    private int keep(Report report) {
        int number = reportCount;
        reports[number] = report;
        reportCount++;
        return number;
    }

    /** Signing looks for itself, so that it leaves alone what the latest check found. */
    private void findWanting(Report report, Findings findings) {
        findings.size = 0;
        int missing = askedByKind[report.kind] & ~report.filledFields;
        for (int field = 0; field < FIELDS; field++) {
            if (has(missing, field)) {
                findings.add(EMPTY_FIELD, field);
            }
        }
        for (int rule = 0; rule < book.size; rule++) {
            int fault = book.faultOf(rule, report);
            if (fault != NONE) {
                findings.add(fault, rule);
            }
        }
    }

    /** Sets of fields are the bits of an int. */
    private static boolean has(int fields, int field) {
        return (fields >>> field & 1) == 1;
    }

    private static int changed(int fields, int field, boolean on) {
        return on ? fields | 1 << field : fields & ~(1 << field);
    }

    /** A report with its values and all that lets it be told, signed and counted. */
    private static final class Report {
        private final int incident;
        private final int kind;
        private final int madeAt;
        private final int former;
        private final int[] values = new int[FIELDS];
        private int filledFields = 0;
        private int fieldsByActs = 0;
        private int openFields = 0;
        private int personsInside = 0;
        private final int[] signers = new int[SIGNATURES];
        private int signatures = 0;

        private Report(int incident, int kind, int madeAt, int former) {
            this.incident = incident;
            this.kind = kind;
            this.madeAt = madeAt;
            this.former = former;
        }

        private boolean canBeTold(int field) {
            return signatures == 0 || has(openFields, field);
        }

        private void tell(int field, int value) {
            values[field] = value;
            filledFields = changed(filledFields, field, true);
            fieldsByActs = changed(fieldsByActs, field, false);
            openFields = changed(openFields, field, false);
        }

        private boolean fillByAct(int field, int minute) {
            boolean empty = !has(filledFields, field);
            boolean earlier = has(fieldsByActs, field) && minute < values[field];
            if (!empty && !earlier) {
                return false;
            }
            values[field] = minute;
            filledFields = changed(filledFields, field, true);
            fieldsByActs = changed(fieldsByActs, field, true);
            return true;
        }

        private void copyValues(Report other) {
            System.arraycopy(other.values, 0, values, 0, FIELDS);
            filledFields = other.filledFields;
            fieldsByActs = other.fieldsByActs;
        }

        private boolean isClosed() {
            return signatures >= SIGNATURES;
        }

        /** Whether a person may sign, as far as the check of fields and rules doesn't say. */
        private boolean isReadyFor(int person) {
            return personsInside == 0 && openFields == 0 && !isClosed() && !hasSigner(person);
        }

        private boolean hasSigner(int person) {
            for (int i = 0; i < signatures && i < SIGNATURES; i++) {
                if (signers[i] == person) {
                    return true;
                }
            }
            return false;
        }

        private void addSignature(int person) {
            if (signatures < SIGNATURES) {
                signers[signatures] = person;
                signatures++;
            }
        }

        private int lastSigner() {
            return signatures > 0 ? signers[signatures - 1] : NONE;
        }

        private boolean isLate(int now, int minutes) {
            return !isClosed() && now - madeAt > minutes;
        }

        private boolean isSettled() {
            return isClosed() && openFields == 0;
        }

        private boolean isBetween(int field, int low, int high) {
            return has(filledFields, field) && values[field] >= low && values[field] <= high;
        }
    }

    /** What a check found, each with its sort (an empty field, a rule) and its number. */
    private static final class Findings {
        private final int[] sorts = new int[FIELDS + MAX_RULES];
        private final int[] numbers = new int[FIELDS + MAX_RULES];
        private int size = 0;

        private void add(int sort, int number) {
            if (size < sorts.length && size < numbers.length) {
                sorts[size] = sort;
                numbers[size] = number;
                size++;
            }
        }
    }

    /** The code of a report for a person, kept until the next one is written over it. */
    private static final class CodeText {
        private final byte[] bytes = new byte[MAX_CODE];
        private int length = 0;

        private void write(Report report, int hiddenFields) {
            length = 0;
            addByte('R');
            addNumber(report.incident);
            addByte(',');
            for (int field = 0; field < FIELDS; field++) {
                if (has(report.filledFields, field)) {
                    addField(field, report.values[field], has(hiddenFields, field));
                }
            }
        }

        private void addField(int field, int value, boolean hidden) {
            addNumber(field);
            addByte(':');
            if (hidden) {
                addByte('*');
            } else {
                addNumber(value);
            }
            addByte(';');
        }

        /** Incidents, fields and values have at most five digits. */
        private void addNumber(int number) {
            if (number < 0) {
                addByte('-');
            }
            int size = Math.abs(number);
            for (int unit = 10_000; unit > 0; unit /= 10) {
                if (size >= unit || unit == 1) {
                    addByte('0' + size / unit % 10);
                }
            }
        }

        private void addByte(int character) {
            if (length < bytes.length) {
                bytes[length] = (byte) character;
                length++;
            }
        }
    }

    /**
     * Rules ready to be asked. Rule r has the sums 2r and 2r + 1. A factor is a number as it is, or
     * a field k as -1 - k; a term without a divisor is divided by the number 1.
     */
    private static final class RuleBook {
        private int size = 0;
        private final char[] comparisons = new char[MAX_RULES];
        private final int[] fieldsTold = new int[MAX_RULES];
        private final int[] termCounts = new int[2 * MAX_RULES];
        private final int[] dividends = new int[2 * MAX_RULES * MAX_TERMS];
        private final int[] divisors = new int[2 * MAX_RULES * MAX_TERMS];
        private final boolean[] subtracted = new boolean[2 * MAX_RULES * MAX_TERMS];

        private static int factorOfField(int field) {
            return -1 - field;
        }

        private void startRule(int rule) {
            fieldsTold[rule] = 0;
            termCounts[2 * rule] = 0;
            termCounts[2 * rule + 1] = 0;
        }

        private void addTerm(int sum, int dividend, int divisor, boolean minus) {
            int term = termCounts[sum];
            if (term >= MAX_TERMS) {
                return;
            }
            int slot = sum * MAX_TERMS + term;
            dividends[slot] = dividend;
            divisors[slot] = divisor;
            subtracted[slot] = minus;
            termCounts[sum] = term + 1;
            noteField(sum / 2, dividend);
            noteField(sum / 2, divisor);
        }

        private void noteField(int rule, int factor) {
            if (factor < 0) {
                fieldsTold[rule] = changed(fieldsTold[rule], -1 - factor, true);
            }
        }

        /** NONE when the rule holds or isn't asked of the report. */
        private int faultOf(int rule, Report report) {
            if ((fieldsTold[rule] & ~report.filledFields) != 0) {
                return NONE;
            }
            int first = sumOf(2 * rule, report.values);
            int second = sumOf(2 * rule + 1, report.values);
            if (first == NO_NUMBER || second == NO_NUMBER) {
                return THROWING_RULE;
            }
            return holds(comparisons[rule], first, second) ? NONE : BROKEN_RULE;
        }

        /** NO_NUMBER when something is divided by 0. */
        private int sumOf(int sum, int[] values) {
            int total = 0;
            for (int term = 0; term < termCounts[sum]; term++) {
                int slot = sum * MAX_TERMS + term;
                int divisor = factorOf(divisors[slot], values);
                if (divisor == 0) {
                    return NO_NUMBER;
                }
                int quotient = factorOf(dividends[slot], values) / divisor;
                total += subtracted[slot] ? -quotient : quotient;
            }
            return total;
        }

        private static int factorOf(int factor, int[] values) {
            int field = -1 - factor;
            return field >= 0 && field < values.length ? values[field] : factor;
        }

        private static boolean holds(char comparison, int first, int second) {
            switch (comparison) {
                case '<':
                    return first < second;
                case '=':
                    return first == second;
                default:
                    return first <= second;
            }
        }
    }

    /**
     * Reads a text into a book of rules. Every reading method goes on behind what it has read, and
     * stops at the first byte that can't be right: where the reader stands then is the wrong place.
     */
    private static final class RuleReader {
        private final byte[] text;
        private int length = 0;
        private int position = 0;

        private RuleReader(byte[] text) {
            this.text = text;
        }

        /** Where the first bytes of the text are wrong; NONE when they are right. */
        private int readInto(RuleBook book, int bytes) {
            length = Math.min(bytes, text.length);
            position = 0;
            book.size = 0;
            skipBlanks();
            for (int rule = 0; position < length; rule++) {
                if (rule >= MAX_RULES) {
                    return position;
                }
                book.startRule(rule);
                if (!readSum(book, 2 * rule) || !readComparison(book, rule)
                        || !readSum(book, 2 * rule + 1) || !passes(';')) {
                    return position;
                }
                book.size = rule + 1;
                skipBlanks();
            }
            return NONE;
        }

        private boolean readComparison(RuleBook book, int rule) {
            if (passes('<')) {
                book.comparisons[rule] = '<';
            } else if (passes('=')) {
                book.comparisons[rule] = '=';
            } else if (passes('!')) {
                book.comparisons[rule] = '!';
            } else {
                return false;
            }
            return true;
        }

        /** Leaves a fifth term's sign unread: nothing that may follow a sum begins with it. */
        private boolean readSum(RuleBook book, int sum) {
            boolean minus = false;
            for (int term = 1; term <= MAX_TERMS; term++) {
                if (!readTerm(book, sum, minus)) {
                    return false;
                }
                if (term < MAX_TERMS) {
                    minus = passes('-');
                    if (!minus && !passes('+')) {
                        return true;
                    }
                }
            }
            return true;
        }

        private boolean readTerm(RuleBook book, int sum, boolean minus) {
            int dividend = readFactor();
            if (dividend == NO_NUMBER) {
                return false;
            }
            int divisor = passes('/') ? readFactor() : 1;
            if (divisor == NO_NUMBER) {
                return false;
            }
            book.addTerm(sum, dividend, divisor, minus);
            return true;
        }

        private int readFactor() {
            boolean isField = passes('f');
            skipBlanks();
            int number = readNumber(isField ? FIELDS - 1 : MAX_NUMBER);
            return isField && number != NO_NUMBER ? RuleBook.factorOfField(number) : number;
        }

        /** No number of six digits is in a range, so the range alone tells a digit too many. */
        private int readNumber(int highest) {
            int number = NO_NUMBER;
            while (position < length) {
                int digit = text[position] - '0';
                if (digit < 0 || digit > 9) {
                    return number;
                }
                int longer = number == NO_NUMBER ? digit : 10 * number + digit;
                if (number == 0 || longer > highest) {
                    return NO_NUMBER;
                }
                number = longer;
                position++;
            }
            return number;
        }

        private boolean passes(char sign) {
            skipBlanks();
            if (position >= length || text[position] != sign) {
                return false;
            }
            position++;
            return true;
        }

        private void skipBlanks() {
            while (position < length && text[position] == ' ') {
                position++;
            }
        }
    }
}
