/** Promises 12 to 14 and 19: put, edition, fault, count. */
public final class SigningTest {
    private static final int LOW = Integer.MIN_VALUE;
    private static final int HIGH = Integer.MAX_VALUE;

    public static void main(String[] args) {
        Due due = new Due();
        put(due);
        putWantsAll(due);
        putLeavesTheCheck(due);
        edition(due);
        editionWithoutRoom(due);
        fault(due);
        count(due);
        due.end();
    }

    private static void put(Due due) {
        ReportChecks2 x = new ReportChecks2();
        x.report(0, 0);
        due.unknown("report 1", () -> x.put(1, 0));
        due.unknown("person -1", () -> x.put(0, -1));
        due.unknown("person 20", () -> x.put(0, 20));
        due.answers("first", 1, () -> x.put(0, 19));
        due.notNow("twice", () -> x.put(0, 19));
        due.answers("second", 2, () -> x.put(0, 0));
        due.notNow("the first one again", () -> x.put(0, 19));
        due.answers("third", 3, () -> x.put(0, 5));
        due.notNow("closed", () -> x.put(0, 6));
        due.unknown("the person ahead of the state", () -> x.put(0, 20));
        x.report(0, 0);
        due.answers("the same person elsewhere", 1, () -> x.put(1, 19));
    }

    private static void putWantsAll(Due due) {
        ReportChecks2 x = new ReportChecks2();
        x.report(0, 1);
        x.ask(1, 3, true);
        due.notNow("an asked field is empty", () -> x.put(0, 0));
        x.field(0, 3, 4);
        Texts.rules(x, "f3<4;");
        due.notNow("a rule is broken", () -> x.put(0, 0));
        Texts.rules(x, "1/0<4;");
        due.notNow("a rule throws", () -> x.put(0, 0));
        Texts.rules(x, "f4<0;");
        due.answers("a rule that is not asked", 1, () -> x.put(0, 0));
        x.ask(1, 5, true);
        due.notNow("asked behind the first signature", () -> x.put(0, 1));
        x.ask(1, 5, false);
        due.answers("nothing is wanting", 2, () -> x.put(0, 1));
        due.answers("nothing was wanting", 3, () -> x.put(0, 2));
    }

    private static void putLeavesTheCheck(Due due) {
        ReportChecks2 x = new ReportChecks2();
        x.report(0, 1);
        x.report(0, 2);
        x.ask(1, 3, true);
        x.ask(1, 4, true);
        x.check(0);
        x.put(1, 0);
        due.answers("the check stays", 4, () -> x.wanting(1, 1));
        due.notNow("wanting", () -> x.put(0, 0));
        x.check(1);
        due.notNow("wanting", () -> x.put(0, 0));
        due.unknown("the check of nothing stays", () -> x.wanting(0, 0));
    }

    private static void edition(Due due) {
        ReportChecks2 x = new ReportChecks2();
        x.tick(100);
        x.report(44, 2);
        x.act(0, 1, 50);
        x.field(0, 2, 60);
        x.field(0, 19, -3);
        due.unknown("report 1", () -> x.edition(1));
        due.notNow("not signed", () -> x.edition(0));
        x.put(0, 1);
        x.put(0, 2);
        due.notNow("not closed", () -> x.edition(0));
        x.put(0, 3);
        x.fault(0, 19);
        x.tick(1);
        due.answers("an edition", 1, () -> x.edition(0));
        due.answers("its values", -3, () -> x.value(1, 19));
        due.notNow("empty ones too", () -> x.value(1, 3));
        due.answers("the former one stays open", 1, () -> x.reportAt(0, 6));
        due.answers("the former one stays signed", 3, () -> x.reportAt(0, 3));
        due.yes("by acts alone still", x.act(1, 1, 49));
        due.yes("by hand still", !x.act(1, 2, 1));
        x.field(1, 2, 61);
        due.answers("the former one's values stay", 60, () -> x.value(0, 2));
        due.answers("the former one's values stay", 50, () -> x.value(0, 1));
        due.answers("signed anew by the same", 1, () -> x.put(1, 1));
        x.put(1, 2);
        x.put(1, 3);
        due.answers("an edition of the edition", 2, () -> x.edition(1));
        due.answers("its former one", 1, () -> x.reportAt(2, 7));
        due.answers("two editions of one", 3, () -> x.edition(0));
        due.answers("its incident", 44, () -> x.reportAt(3, 0));
        due.answers("its kind", 2, () -> x.reportAt(3, 1));
        due.answers("its making", 101, () -> x.reportAt(3, 2));
    }

    private static void editionWithoutRoom(Due due) {
        ReportChecks2 x = new ReportChecks2();
        for (int i = 0; i < 29; i++) {
            x.report(i, 0);
        }
        Texts.close(x, 0);
        due.answers("the last room", 29, () -> x.edition(0));
        due.noRoom("no room for an edition", () -> x.edition(0));
        due.noRoom("no room for a report", () -> x.report(0, 0));
        due.notNow("the state ahead of the room", () -> x.edition(1));
        due.unknown("the report ahead of the state", () -> x.edition(30));
    }

    private static void fault(Due due) {
        ReportChecks2 x = new ReportChecks2();
        x.tick(9);
        x.report(0, 0);
        x.act(0, 5, 8);
        due.unknown("report 1", () -> x.fault(1, 0));
        due.unknown("field 20", () -> x.fault(0, 20));
        due.unknown("field -1", () -> x.fault(0, -1));
        due.notNow("not signed", () -> x.fault(0, 5));
        x.put(0, 1);
        x.put(0, 2);
        due.notNow("not closed", () -> x.fault(0, 5));
        x.put(0, 3);
        due.done("closed", () -> x.fault(0, 5));
        due.notNow("open", () -> x.fault(0, 5));
        due.done("an empty one", () -> x.fault(0, 6));
        x.field(0, 5, 8);
        due.done("once more", () -> x.fault(0, 5));
        x.field(0, 5, 8);
        x.field(0, 6, 1);
        x.edition(0);
        due.yes("told behind a fault is by hand", !x.act(1, 5, 7));
        due.answers("none open", 0, () -> x.reportAt(0, 6));
    }

    private static void count(Due due) {
        ReportChecks2 x = new ReportChecks2();
        int[] values = {-5, 0, 5, 5};
        for (int i = 0; i < values.length; i++) {
            x.report(i, 0);
            x.field(i, 7, values[i]);
        }
        x.report(4, 0);
        due.answers("none closed", 0, () -> x.count(7, LOW, HIGH));
        x.put(0, 1);
        x.put(0, 2);
        due.answers("two signatures", 0, () -> x.count(7, LOW, HIGH));
        x.put(0, 3);
        for (int i = 1; i < 5; i++) {
            Texts.close(x, i);
        }
        due.answers("all with a value", 4, () -> x.count(7, LOW, HIGH));
        due.answers("low and high belong to it", 4, () -> x.count(7, -5, 5));
        due.answers("above low", 3, () -> x.count(7, -4, 5));
        due.answers("below high", 2, () -> x.count(7, -5, 4));
        due.answers("just one value", 2, () -> x.count(7, 5, 5));
        due.answers("an empty field is not 0", 1, () -> x.count(7, 0, 0));
        due.answers("another field", 0, () -> x.count(6, LOW, HIGH));
        x.fault(3, 0);
        due.answers("another field is open", 1, () -> x.count(7, 5, 5));
        x.field(3, 0, 1);
        due.answers("told", 2, () -> x.count(7, 5, 5));
        due.unknown("field 20", () -> x.count(20, 0, 0));
        due.unknown("field -1", () -> x.count(-1, 0, 0));
        due.unknown("the field ahead of the range", () -> x.count(20, 1, 0));
        due.outside("low above high", () -> x.count(0, 1, 0));
        due.outside("far above", () -> x.count(0, HIGH, LOW));
    }
}
