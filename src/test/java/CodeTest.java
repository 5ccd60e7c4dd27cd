/** Promises 15 to 17: hide, code, at. */
public final class CodeTest {
    public static void main(String[] args) {
        Due due = new Due();
        code(due);
        hide(due);
        at(due);
        longest(due);
        due.end();
    }

    private static void code(Due due) {
        ReportChecks2 x = new ReportChecks2();
        x.report(0, 0);
        x.report(9_070, 0);
        due.same("without fields", "R0,", Texts.code(x, 0, 0));
        x.field(1, 19, 0);
        x.field(1, 0, -10);
        x.field(1, 10, 99_999);
        x.field(1, 9, -1);
        x.field(1, 3, 1_000);
        due.same("fields by numbers", "R9070,0:-10;3:1000;9:-1;10:99999;19:0;", Texts.code(x, 1, 3));
        Texts.close(x, 1);
        x.fault(1, 3);
        due.same("with an open field", "R9070,0:-10;3:1000;9:-1;10:99999;19:0;", Texts.code(x, 1, 3));
        due.unknown("report 2", () -> x.code(2, 0));
        due.unknown("report -1", () -> x.code(-1, 0));
        due.unknown("person 20", () -> x.code(0, 20));
        due.unknown("person -1", () -> x.code(0, -1));
    }

    private static void hide(Due due) {
        ReportChecks2 x = new ReportChecks2();
        x.report(5, 0);
        x.field(0, 4, -44);
        x.field(0, 19, 7);
        x.hide(4, 2, true);
        x.hide(19, 19, true);
        x.hide(3, 2, true);
        due.same("hidden from person 2", "R5,4:*;19:7;", Texts.code(x, 0, 2));
        due.same("hidden from person 19", "R5,4:-44;19:*;", Texts.code(x, 0, 19));
        due.same("hidden from nobody else", "R5,4:-44;19:7;", Texts.code(x, 0, 3));
        x.hide(4, 2, false);
        x.hide(4, 3, false);
        due.same("no more", "R5,4:-44;19:7;", Texts.code(x, 0, 2));
        due.unknown("field 20", () -> x.hide(20, 0, true));
        due.unknown("field -1", () -> x.hide(-1, 0, true));
        due.unknown("person 20", () -> x.hide(0, 20, false));
        due.unknown("person -1", () -> x.hide(0, -1, false));
    }

    private static void at(Due due) {
        ReportChecks2 x = new ReportChecks2();
        due.outside("below 0 without a code", () -> x.at(-1));
        due.answers("without a code", -1, () -> x.at(5));
        x.report(12, 0);
        x.field(0, 1, 2);
        due.answers("its length", 8, () -> x.code(0, 0));
        due.answers("the first byte", 'R', () -> x.at(0));
        due.answers("the last byte", ';', () -> x.at(7));
        due.answers("behind it", -1, () -> x.at(8));
        due.answers("far behind it", -1, () -> x.at(Integer.MAX_VALUE));
        due.outside("below 0", () -> x.at(-1));
        due.outside("far below 0", () -> x.at(Integer.MIN_VALUE));
        x.field(0, 1, 3);
        x.hide(1, 0, true);
        due.answers("a code stays as it was written", '2', () -> x.at(6));
        due.unknown("no such report", () -> x.code(1, 0));
        due.answers("a refused code writes nothing", '2', () -> x.at(6));
        x.report(3, 0);
        due.answers("a shorter one", 3, () -> x.code(1, 0));
        due.answers("behind the shorter one", -1, () -> x.at(3));
    }

    private static void longest(Due due) {
        ReportChecks2 x = new ReportChecks2();
        x.report(9_999, 0);
        StringBuilder want = new StringBuilder("R9999,");
        for (int field = 0; field < 20; field++) {
            x.field(0, field, -99_999);
            want.append(field).append(":-99999;");
        }
        due.same("the longest code", want.toString(), Texts.code(x, 0, 0));
    }
}
