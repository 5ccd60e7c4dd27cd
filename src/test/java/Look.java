/**
 * All that an object shows: two objects with the same past must show the same. It takes more than the
 * 512 calls that the document promises; the class has no count of calls, so it answers all the same.
 */
final class Look {
    private static final int REPORTS = 30;
    private static final int FIELDS = 20;
    private static final int PERSONS = 20;

    private Look() {
    }

    /** Ends with calls that change the object: it is of no use afterwards. */
    static String at(ReportChecks2 x) {
        StringBuilder seen = new StringBuilder();
        latest(x, seen);
        for (int report = 0; report < REPORTS; report++) {
            report(x, report, seen);
        }
        statistics(x, seen);
        for (int report = 0; report < REPORTS; report++) {
            checkAndCode(x, report, seen);
        }
        tapeAndTime(x, seen);
        for (int report = 0; report < REPORTS; report++) {
            whatCanBeDone(x, report, seen);
        }
        return seen.toString();
    }

    private static void latest(ReportChecks2 x, StringBuilder seen) {
        seen.append("place ").append(x.place()).append("; check");
        for (int i = 0; i < 40; i++) {
            int thing = i;
            add(seen, () -> x.wanting(thing, 0));
            add(seen, () -> x.wanting(thing, 1));
        }
        seen.append("; code");
        for (int i = 0; i < 210; i++) {
            seen.append(' ').append(x.at(i));
        }
    }

    private static void report(ReportChecks2 x, int report, StringBuilder seen) {
        seen.append("\nreport ").append(report);
        for (int i = 0; i < 8; i++) {
            int what = i;
            add(seen, () -> x.reportAt(report, what));
        }
        for (int i = 0; i < FIELDS; i++) {
            int field = i;
            add(seen, () -> x.value(report, field));
        }
    }

    private static void statistics(ReportChecks2 x, StringBuilder seen) {
        seen.append("\nlate");
        for (int i = 0; i < REPORTS; i++) {
            seen.append(' ').append(x.late(0, i));
        }
        seen.append("; count");
        for (int field = 0; field < FIELDS; field++) {
            seen.append(' ').append(x.count(field, Integer.MIN_VALUE, Integer.MAX_VALUE));
        }
    }

    private static void checkAndCode(ReportChecks2 x, int report, StringBuilder seen) {
        if (Due.outcome(() -> x.check(report)).startsWith("throws")) {
            return;
        }
        seen.append("\nwanting ").append(Texts.wanting(x, report));
        for (int person = 0; person < PERSONS; person++) {
            seen.append(' ').append(Texts.code(x, report, person));
        }
    }

    private static void tapeAndTime(ReportChecks2 x, StringBuilder seen) {
        seen.append("\ntape");
        add(seen, () -> x.sign('=', 1));
        add(seen, x::rules);
        add(seen, x::place);
        add(seen, () -> x.tick(1));
    }

    /** Shows which fields are by acts alone, which are open, and who has signed. */
    private static void whatCanBeDone(ReportChecks2 x, int report, StringBuilder seen) {
        seen.append("\nto report ").append(report);
        for (int i = 0; i < 10; i++) {
            int kind = i;
            add(seen, () -> x.act(report, kind, 0) ? 1 : 0);
        }
        for (int i = 0; i < FIELDS; i++) {
            int field = i;
            seen.append(' ').append(Due.outcome(() -> x.field(report, field, 7)));
        }
        for (int i = 0; i < PERSONS; i++) {
            int person = i;
            add(seen, () -> x.put(report, person));
        }
    }

    private static void add(StringBuilder seen, Due.Answer answer) {
        seen.append(' ').append(Due.outcome(answer));
    }
}
