/** Promises 1, 2, 18, 20 and 22: a new object, report, late, reportAt, tick. */
public final class ReportsTest {
    private static final int LOW = Integer.MIN_VALUE;
    private static final int HIGH = Integer.MAX_VALUE;

    public static void main(String[] args) {
        Due due = new Due();
        newObject(due);
        report(due);
        reportAt(due);
        tick(due);
        late(due);
        due.end();
    }

    private static void newObject(Due due) {
        ReportChecks2 x = new ReportChecks2();
        due.unknown("value of no report", () -> x.value(0, 0));
        due.unknown("check of no report", () -> x.check(0));
        due.unknown("wanting before a check", () -> x.wanting(0, 0));
        due.answers("place before a text", -1, x::place);
        due.answers("at before a code", -1, () -> x.at(0));
        due.answers("late without reports", -1, () -> x.late(0, 0));
        due.answers("count without reports", 0, () -> x.count(0, LOW, HIGH));
        due.answers("the first report", 0, () -> x.report(5, 4));
        due.answers("nothing asked, no rules", 0, () -> x.check(0));
        for (int field = 0; field < 20; field++) {
            int f = field;
            due.notNow("an empty field", () -> x.value(0, f));
            x.field(0, field, 1);
        }
        for (int person = 0; person < 20; person++) {
            due.yes("nothing hidden", Texts.code(x, 0, person).indexOf('*') < 0);
        }
    }

    private static void report(Due due) {
        ReportChecks2 x = new ReportChecks2();
        due.unknown("kind -1", () -> x.report(0, -1));
        due.unknown("kind 5", () -> x.report(0, 5));
        due.unknown("the kind ahead of the incident", () -> x.report(-1, 5));
        due.outside("incident -1", () -> x.report(-1, 0));
        due.outside("incident 10,000", () -> x.report(10_000, 4));
        due.outside("incident of the lowest int", () -> x.report(LOW, 4));
        for (int i = 0; i < 30; i++) {
            int n = i;
            due.answers("report " + n, n, () -> x.report(n == 0 ? 9_999 : 0, n % 5));
        }
        due.noRoom("report 30", () -> x.report(0, 0));
        due.outside("the incident ahead of the room", () -> x.report(10_000, 0));
        due.unknown("the kind ahead of the room", () -> x.report(0, HIGH));
        due.unknown("no report 30", () -> x.reportAt(30, 0));
        due.answers("the last incident", 9_999, () -> x.reportAt(0, 0));
        x.tick(1);
        due.answers("the last of 30 late ones", 29, () -> x.late(0, 29));
        due.answers("behind all 30", -1, () -> x.late(0, 30));
        due.answers("none of 30 closed", 0, () -> x.count(0, LOW, HIGH));
    }

    private static void reportAt(Due due) {
        ReportChecks2 x = new ReportChecks2();
        x.tick(7);
        x.report(123, 3);
        int[] fresh = {123, 3, 7, 0, -1, 0, 0, -1};
        sees(due, x, 0, fresh);
        x.inside(0, 99);
        sees(due, x, 0, 123, 3, 7, 0, -1, 99, 0, -1);
        x.inside(0, 0);
        x.put(0, 19);
        sees(due, x, 0, 123, 3, 7, 1, 19, 0, 0, -1);
        x.put(0, 0);
        x.put(0, 6);
        sees(due, x, 0, 123, 3, 7, 3, 6, 0, 0, -1);
        x.fault(0, 19);
        x.fault(0, 0);
        sees(due, x, 0, 123, 3, 7, 3, 6, 0, 2, -1);
        x.tick(1);
        x.edition(0);
        sees(due, x, 1, 123, 3, 8, 0, -1, 0, 0, 0);
        due.unknown("report -1", () -> x.reportAt(-1, 0));
        due.unknown("report 2", () -> x.reportAt(2, 0));
        due.unknown("what -1", () -> x.reportAt(0, -1));
        due.unknown("what 8", () -> x.reportAt(0, 8));
    }

    private static void sees(Due due, ReportChecks2 x, int report, int... want) {
        for (int what = 0; what < want.length; what++) {
            int w = what;
            due.answers("reportAt " + report + ", " + what, want[what], () -> x.reportAt(report, w));
        }
    }

    private static void tick(Due due) {
        ReportChecks2 x = new ReportChecks2();
        due.outside("no minutes", () -> x.tick(0));
        due.outside("minutes below 0", () -> x.tick(-1));
        due.outside("5,001 minutes", () -> x.tick(5_001));
        due.outside("the highest int", () -> x.tick(HIGH));
        due.answers("a minute", 1, () -> x.tick(1));
        for (int i = 1; i < 20; i++) {
            due.answers("5,000 minutes", 1 + 5_000 * i, () -> x.tick(5_000));
        }
        due.outside("beyond the end", () -> x.tick(4_999));
        due.answers("to the end", 99_999, () -> x.tick(4_998));
        due.outside("behind the end", () -> x.tick(1));
        x.report(0, 0);
        due.answers("made at the end", 99_999, () -> x.reportAt(0, 2));
    }

    private static void late(Due due) {
        ReportChecks2 x = new ReportChecks2();
        x.report(0, 0);
        x.tick(10);
        x.report(1, 0);
        x.report(2, 0);
        x.tick(5);
        due.answers("first", 0, () -> x.late(4, 0));
        due.answers("second", 1, () -> x.late(4, 1));
        due.answers("third", 2, () -> x.late(4, 2));
        due.answers("not so many", -1, () -> x.late(4, 3));
        due.answers("far too many", -1, () -> x.late(4, HIGH));
        due.answers("5 minutes are not more than 5", -1, () -> x.late(5, 1));
        due.answers("more than 14", 0, () -> x.late(14, 0));
        due.answers("not more than 15", -1, () -> x.late(15, 0));
        due.answers("the most minutes", -1, () -> x.late(99_999, 0));
        x.put(0, 1);
        x.put(0, 2);
        due.answers("two signatures don't close", 0, () -> x.late(0, 0));
        x.put(0, 3);
        due.answers("closed ones are left out", 1, () -> x.late(0, 0));
        x.fault(0, 3);
        due.answers("a fault leaves it closed", 1, () -> x.late(0, 0));
        x.edition(0);
        due.answers("the edition is new", -1, () -> x.late(0, 2));
        x.tick(1);
        due.answers("the edition is late by its own making", 3, () -> x.late(0, 2));
        due.outside("minutes below 0", () -> x.late(-1, 0));
        due.outside("100,000 minutes", () -> x.late(100_000, 0));
        due.outside("i below 0", () -> x.late(0, -1));
    }
}
