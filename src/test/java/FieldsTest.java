/** Promises 3 to 6 and 21: ask, field, act, inside, value. */
public final class FieldsTest {
    public static void main(String[] args) {
        Due due = new Due();
        ask(due);
        field(due);
        act(due);
        inside(due);
        value(due);
        due.end();
    }

    private static void ask(Due due) {
        ReportChecks2 x = new ReportChecks2();
        x.report(0, 4);
        x.report(0, 0);
        x.ask(4, 19, true);
        x.ask(4, 0, true);
        x.ask(4, 0, true);
        due.same("asked by its kind", "1:0 1:19", Texts.wanting(x, 0));
        due.same("not by another kind", "", Texts.wanting(x, 1));
        x.ask(4, 0, false);
        x.ask(4, 1, false);
        due.same("no more asked", "1:19", Texts.wanting(x, 0));
        due.unknown("kind -1", () -> x.ask(-1, 0, true));
        due.unknown("kind 5", () -> x.ask(5, 0, false));
        due.unknown("field -1", () -> x.ask(0, -1, true));
        due.unknown("field 20", () -> x.ask(0, 20, true));
        due.unknown("field 32", () -> x.ask(0, 32, true));
    }

    private static void field(Due due) {
        ReportChecks2 x = new ReportChecks2();
        x.report(0, 0);
        due.unknown("report -1", () -> x.field(-1, 0, 0));
        due.unknown("report 1", () -> x.field(1, 0, 0));
        due.unknown("field -1", () -> x.field(0, -1, 0));
        due.unknown("field 20", () -> x.field(0, 20, 0));
        due.unknown("the field ahead of the value", () -> x.field(0, 20, 100_000));
        due.outside("too low", () -> x.field(0, 0, -100_000));
        due.outside("too high", () -> x.field(0, 0, 100_000));
        due.outside("the lowest int", () -> x.field(0, 0, Integer.MIN_VALUE));
        due.notNow("still empty", () -> x.value(0, 0));
        due.done("the lowest", () -> x.field(0, 0, -99_999));
        due.answers("the lowest", -99_999, () -> x.value(0, 0));
        due.done("the highest, told again", () -> x.field(0, 0, 99_999));
        due.answers("the highest", 99_999, () -> x.value(0, 0));
        x.put(0, 1);
        due.notNow("signed", () -> x.field(0, 0, 1));
        due.outside("the value ahead of the state", () -> x.field(0, 0, 100_000));
        x.put(0, 2);
        x.put(0, 3);
        due.notNow("closed", () -> x.field(0, 0, 1));
        x.fault(0, 0);
        due.answers("open, yet as it was", 99_999, () -> x.value(0, 0));
        due.notNow("another field", () -> x.field(0, 1, 1));
        due.done("open", () -> x.field(0, 0, 5));
        due.answers("told then", 5, () -> x.value(0, 0));
        due.notNow("until it was told", () -> x.field(0, 0, 6));
    }

    private static void act(Due due) {
        ReportChecks2 x = new ReportChecks2();
        x.tick(50);
        x.report(0, 0);
        due.unknown("report 1", () -> x.act(1, 0, 0));
        due.unknown("kind -1", () -> x.act(0, -1, 0));
        due.unknown("kind 10", () -> x.act(0, 10, 0));
        due.unknown("the kind ahead of the minute", () -> x.act(0, 10, 51));
        due.outside("to come", () -> x.act(0, 9, 51));
        due.outside("below 0", () -> x.act(0, 9, -1));
        due.yes("now", x.act(0, 9, 50));
        due.yes("the same minute is not later", !x.act(0, 9, 50));
        due.yes("an earlier one", x.act(0, 9, 49));
        due.yes("a later one", !x.act(0, 9, 50));
        due.answers("the earliest", 49, () -> x.value(0, 9));
        due.yes("minute 0", x.act(0, 0, 0));
        due.answers("minute 0", 0, () -> x.value(0, 0));
        due.yes("not ahead of 0", !x.act(0, 0, 0));
        x.field(0, 9, 48);
        due.yes("by hand, not by acts alone", !x.act(0, 9, 1));
        x.field(0, 4, 40);
        due.yes("told first", !x.act(0, 4, 39));
        due.answers("told first", 40, () -> x.value(0, 4));
        x.put(0, 0);
        due.notNow("signed", () -> x.act(0, 1, 1));
        due.outside("the minute ahead of the state", () -> x.act(0, 1, 51));
        x.put(0, 1);
        x.put(0, 2);
        x.fault(0, 1);
        due.notNow("a fault opens it not for acts", () -> x.act(0, 1, 1));
    }

    private static void inside(Due due) {
        ReportChecks2 x = new ReportChecks2();
        x.report(0, 0);
        due.unknown("report 1", () -> x.inside(1, 0));
        due.unknown("the report ahead of n", () -> x.inside(-1, 100));
        due.outside("below 0", () -> x.inside(0, -1));
        due.outside("100", () -> x.inside(0, 100));
        due.done("99", () -> x.inside(0, 99));
        due.answers("99", 99, () -> x.reportAt(0, 5));
        due.notNow("somebody is inside", () -> x.put(0, 0));
        due.done("nobody", () -> x.inside(0, 0));
        due.answers("nobody is inside", 1, () -> x.put(0, 0));
        due.notNow("signed", () -> x.inside(0, 0));
        due.outside("n ahead of the state", () -> x.inside(0, 100));
    }

    private static void value(Due due) {
        ReportChecks2 x = new ReportChecks2();
        x.report(0, 0);
        x.report(0, 0);
        x.field(1, 19, -7);
        due.answers("told", -7, () -> x.value(1, 19));
        due.notNow("another report's", () -> x.value(0, 19));
        due.notNow("another field", () -> x.value(1, 18));
        due.unknown("report 2", () -> x.value(2, 0));
        due.unknown("report -1", () -> x.value(-1, 0));
        due.unknown("field 20", () -> x.value(1, 20));
        due.unknown("field -1", () -> x.value(1, -1));
    }
}
