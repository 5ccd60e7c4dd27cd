import java.util.function.Consumer;
import java.util.function.Supplier;

/**
 * Every refusal of the document: each call is made on one of two objects with the same past, must throw
 * the first exception that is so, and must leave no trace that the other object doesn't show too.
 */
public final class RefusalsTest {
    private static final int LOW = Integer.MIN_VALUE;
    private static final int HIGH = Integer.MAX_VALUE;
    private static final int[] NO_KINDS = {-1, 5, 32, LOW, HIGH};
    private static final int[] NO_ACT_KINDS = {-1, 10, 19, 32, LOW, HIGH};
    private static final int[] NO_FIELDS = {-1, 20, 32, LOW, HIGH};
    private static final int[] NO_PERSONS = {-1, 20, 32, LOW, HIGH};
    private static final int[] NO_WHATS = {-1, 8, LOW, HIGH};

    /** Reports of a busy object by their state. */
    private static final int TOLD = 0;
    private static final int SIGNED = 1;
    private static final int CLOSED = 2;
    private static final int REOPENED = 3;
    private static final int EDITION = 4;
    private static final int WANTING = 5;
    private static final int[] NO_BUSY_REPORTS = {-1, 6, 30, LOW, HIGH};

    private final Due due;
    private final Supplier<ReportChecks2> maker;
    private final String state;

    private RefusalsTest(Due due, String state, Supplier<ReportChecks2> maker) {
        this.due = due;
        this.state = state;
        this.maker = maker;
    }

    public static void main(String[] args) {
        Due due = new Due();
        RefusalsTest fresh = new RefusalsTest(due, "new", ReportChecks2::new);
        fresh.withoutReports();
        RefusalsTest busy = new RefusalsTest(due, "busy", RefusalsTest::busyObject);
        busy.unknownReports();
        busy.unknownNumbers();
        busy.outsideOfRanges();
        busy.notInThisState();
        busy.theFirstThatIsSo();
        RefusalsTest full = new RefusalsTest(due, "full", RefusalsTest::fullObject);
        full.withoutRoom();
        due.end();
    }

    private void withoutReports() {
        for (int report : new int[] {0, 1, 29, 30, -1, LOW, HIGH}) {
            unknownReport(report);
        }
        unknown("wanting without a check", x -> x.wanting(0, 0));
        outside("at without a code", x -> x.at(-1));
    }

    private void unknownReports() {
        for (int report : NO_BUSY_REPORTS) {
            unknownReport(report);
        }
    }

    private void unknownReport(int report) {
        unknown("field of report " + report, x -> x.field(report, 0, 0));
        unknown("act on report " + report, x -> x.act(report, 0, 0));
        unknown("inside of report " + report, x -> x.inside(report, 0));
        unknown("check of report " + report, x -> x.check(report));
        unknown("put on report " + report, x -> x.put(report, 0));
        unknown("edition of report " + report, x -> x.edition(report));
        unknown("fault in report " + report, x -> x.fault(report, 0));
        unknown("code of report " + report, x -> x.code(report, 0));
        unknown("reportAt of report " + report, x -> x.reportAt(report, 0));
        unknown("value of report " + report, x -> x.value(report, 0));
    }

    private void unknownNumbers() {
        for (int kind : NO_KINDS) {
            unknown("report of kind " + kind, x -> x.report(0, kind));
            unknown("ask by kind " + kind, x -> x.ask(kind, 0, true));
            unknown("ask no more by kind " + kind, x -> x.ask(kind, 3, false));
        }
        for (int kind : NO_ACT_KINDS) {
            unknown("act of kind " + kind, x -> x.act(TOLD, kind, 0));
        }
        for (int field : NO_FIELDS) {
            unknown("ask for field " + field, x -> x.ask(1, field, true));
            unknown("ask no more for field " + field, x -> x.ask(1, field, false));
            unknown("field " + field, x -> x.field(TOLD, field, 0));
            unknown("fault in field " + field, x -> x.fault(CLOSED, field));
            unknown("hide field " + field, x -> x.hide(field, 0, true));
            unknown("hide field " + field + " no more", x -> x.hide(field, 2, false));
            unknown("count of field " + field, x -> x.count(field, 0, 0));
            unknown("value of field " + field, x -> x.value(TOLD, field));
        }
        for (int person : NO_PERSONS) {
            unknown("put by person " + person, x -> x.put(TOLD, person));
            unknown("hide from person " + person, x -> x.hide(0, person, true));
            unknown("hide from person " + person + " no more", x -> x.hide(3, person, false));
            unknown("code for person " + person, x -> x.code(TOLD, person));
        }
        for (int what : NO_WHATS) {
            unknown("reportAt " + what, x -> x.reportAt(TOLD, what));
        }
        for (int i : new int[] {-1, 3, 40, LOW, HIGH}) {
            unknown("wanting of thing " + i, x -> x.wanting(i, 0));
            unknown("wanting, the number of thing " + i, x -> x.wanting(i, 1));
        }
        for (int what : new int[] {-1, 2, 3, LOW, HIGH}) {
            unknown("wanting, what " + what, x -> x.wanting(0, what));
        }
    }

    private void outsideOfRanges() {
        for (int incident : new int[] {-1, 10_000, LOW, HIGH}) {
            outside("incident " + incident, x -> x.report(incident, 0));
        }
        for (int value : new int[] {-100_000, 100_000, LOW, HIGH}) {
            outside("value " + value, x -> x.field(TOLD, 0, value));
            outside("value " + value + " of an open field", x -> x.field(REOPENED, 2, value));
        }
        for (int minute : new int[] {-1, 101, LOW, HIGH}) {
            outside("an act at minute " + minute, x -> x.act(TOLD, 9, minute));
        }
        for (int n : new int[] {-1, 100, LOW, HIGH}) {
            outside(n + " persons inside", x -> x.inside(TOLD, n));
        }
        for (int n : new int[] {-1, 0, 9, 16, LOW, HIGH}) {
            outside(n + " bytes", x -> x.sign(';', n));
        }
        for (int i : new int[] {-1, -2, LOW}) {
            outside("byte " + i, x -> x.at(i));
            outside("late one " + i, x -> x.late(0, i));
        }
        for (int minutes : new int[] {-1, 100_000, LOW, HIGH}) {
            outside("late by " + minutes, x -> x.late(minutes, 0));
        }
        outside("1 .. 0", x -> x.count(0, 1, 0));
        outside("0 .. -1", x -> x.count(0, 0, -1));
        outside("the highest .. the lowest", x -> x.count(0, HIGH, LOW));
        outside("the lowest + 1 .. the lowest", x -> x.count(0, LOW + 1, LOW));
        for (int minutes : new int[] {-1, 0, 5_001, LOW, HIGH, HIGH - 50}) {
            outside("tick of " + minutes, x -> x.tick(minutes));
        }
    }

    private void notInThisState() {
        for (int report : new int[] {SIGNED, CLOSED, REOPENED}) {
            notNow("field in report " + report, x -> x.field(report, 1, 1));
            notNow("act on report " + report, x -> x.act(report, 2, 0));
            notNow("inside of report " + report, x -> x.inside(report, 1));
            notNow("nobody inside of report " + report, x -> x.inside(report, 0));
            notNow("put by the first person on report " + report, x -> x.put(report, 17));
        }
        for (int report : new int[] {CLOSED, REOPENED}) {
            notNow("a fourth signature on report " + report, x -> x.put(report, 0));
        }
        for (int report : new int[] {TOLD, SIGNED, EDITION}) {
            notNow("edition of report " + report, x -> x.edition(report));
            notNow("fault in report " + report, x -> x.fault(report, 2));
        }
        notNow("put where things are wanting", x -> x.put(WANTING, 0));
        notNow("put while somebody is inside", x -> x.put(EDITION, 0));
        notNow("fault in an open field", x -> x.fault(REOPENED, 2));
        notNow("value of an empty field", x -> x.value(TOLD, 7));
        notNow("value of an empty field of a closed report", x -> x.value(CLOSED, 7));
    }

    private void theFirstThatIsSo() {
        unknown("report: the kind, then the incident", x -> x.report(-1, 5));
        unknown("field: the report, then the value", x -> x.field(6, 0, 100_000));
        unknown("field: the field, then the value", x -> x.field(TOLD, 20, 100_000));
        unknown("field: the field, then the state", x -> x.field(CLOSED, 20, 0));
        outside("field: the value, then the state", x -> x.field(CLOSED, 0, 100_000));
        unknown("act: the report, then the minute", x -> x.act(6, 0, 101));
        unknown("act: the kind, then the minute", x -> x.act(TOLD, 10, -1));
        unknown("act: the kind, then the state", x -> x.act(CLOSED, 10, 0));
        outside("act: the minute, then the state", x -> x.act(CLOSED, 0, 101));
        unknown("inside: the report, then n", x -> x.inside(6, 100));
        outside("inside: n, then the state", x -> x.inside(SIGNED, 100));
        unknown("put: the person, then the state", x -> x.put(CLOSED, 20));
        unknown("fault: the field, then the state", x -> x.fault(TOLD, 20));
        unknown("count: the field, then the range", x -> x.count(20, 1, 0));
        unknown("value: the field, then the state", x -> x.value(TOLD, 20));
    }

    private void withoutRoom() {
        noRoom("a 31st report", x -> x.report(0, 0));
        unknown("report: the kind, then the room", x -> x.report(0, 5));
        outside("report: the incident, then the room", x -> x.report(10_000, 0));
        noRoom("an edition as the 31st report", x -> x.edition(0));
        noRoom("an edition of the last report", x -> x.edition(29));
        notNow("edition: the state, then the room", x -> x.edition(1));
        unknown("edition: the report, then the state and the room", x -> x.edition(30));
        unknown("check of report 30", x -> x.check(30));
        for (int n = 6; n <= 8; n++) {
            int bytes = n;
            noRoom(n + " bytes where there is room for 5", x -> x.sign(';', bytes));
        }
        outside("sign: n, then the room", x -> x.sign(';', 9));
        outside("the lowest n, then the room", x -> x.sign(';', LOW));
        outside("a minute behind the last one", x -> x.tick(1));
        outside("5,000 minutes behind the last one", x -> x.tick(5_000));
        outside("an act behind the last minute", x -> x.act(1, 0, 100_000));
    }

    private void unknown(String call, Consumer<ReportChecks2> refused) {
        refused("IllegalArgumentException", call, refused);
    }

    private void outside(String call, Consumer<ReportChecks2> refused) {
        refused("IndexOutOfBoundsException", call, refused);
    }

    private void notNow(String call, Consumer<ReportChecks2> refused) {
        refused("IllegalStateException", call, refused);
    }

    private void noRoom(String call, Consumer<ReportChecks2> refused) {
        refused("UnsupportedOperationException", call, refused);
    }

    private void refused(String exception, String call, Consumer<ReportChecks2> refused) {
        ReportChecks2 called = maker.get();
        ReportChecks2 left = maker.get();
        String where = state + " object, " + call;
        due.same(where, "throws " + exception, Due.outcome(() -> refused.accept(called)));
        due.same(where + " leaves all as it was", Look.at(left), Look.at(called));
    }

    /** At minute 100, with a report in every state, three things in the latest check, and 5 bytes on the tape. */
    private static ReportChecks2 busyObject() {
        ReportChecks2 x = new ReportChecks2();
        x.tick(100);
        for (int report = 0; report < 4; report++) {
            x.report(70 + report, 0);
            x.act(report, 2, 50);
            x.field(report, 3, -report);
        }
        x.put(SIGNED, 17);
        Texts.close(x, CLOSED);
        Texts.close(x, REOPENED);
        x.fault(REOPENED, 2);
        x.edition(CLOSED);
        x.inside(EDITION, 4);
        x.report(99, 1);
        x.field(WANTING, 0, 8);
        x.ask(1, 3, true);
        x.hide(3, 2, true);
        Texts.rules(x, "f0<8;8/0<f0;");
        x.check(WANTING);
        x.code(TOLD, 2);
        Texts.write(x, "1<2;3");
        return x;
    }

    /** At the last minute, with 30 reports, 0 and 29 of them closed, and 295 bytes on the tape. */
    private static ReportChecks2 fullObject() {
        ReportChecks2 x = new ReportChecks2();
        for (int i = 0; i < 19; i++) {
            x.tick(5_000);
        }
        x.tick(4_999);
        for (int report = 0; report < 30; report++) {
            x.report(report, 0);
        }
        Texts.close(x, 0);
        Texts.close(x, 29);
        Texts.write(x, "1<2;" + " ".repeat(291));
        return x;
    }
}
