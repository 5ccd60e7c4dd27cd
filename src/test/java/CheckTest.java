/** Promises 10 and 11: check, wanting, and how rules are asked. */
public final class CheckTest {
    public static void main(String[] args) {
        Due due = new Due();
        check(due);
        wanting(due);
        order(due);
        comparisons(due);
        arithmetic(due);
        division(due);
        asked(due);
        allThatCanBeWanting(due);
        due.end();
    }

    private static void check(Due due) {
        ReportChecks2 x = new ReportChecks2();
        x.report(0, 3);
        x.ask(3, 2, true);
        due.answers("one is empty", 1, () -> x.check(0));
        x.field(0, 2, 0);
        due.answers("none is empty", 0, () -> x.check(0));
        due.unknown("report -1", () -> x.check(-1));
        due.unknown("report 1", () -> x.check(1));
        Texts.close(x, 0);
        x.ask(3, 4, true);
        due.same("a closed one too", "1:4", Texts.wanting(x, 0));
        x.fault(0, 2);
        due.same("an open field has its value", "1:4", Texts.wanting(x, 0));
    }

    private static void wanting(Due due) {
        ReportChecks2 x = new ReportChecks2();
        x.report(0, 0);
        x.report(0, 1);
        x.ask(0, 7, true);
        x.check(0);
        due.answers("what it is", 1, () -> x.wanting(0, 0));
        due.answers("the field", 7, () -> x.wanting(0, 1));
        due.unknown("what -1", () -> x.wanting(0, -1));
        due.unknown("what 2", () -> x.wanting(0, 2));
        due.unknown("i 1", () -> x.wanting(1, 0));
        due.unknown("i -1", () -> x.wanting(-1, 0));
        due.unknown("the lowest i", () -> x.wanting(Integer.MIN_VALUE, 1));
        due.unknown("no such report", () -> x.check(2));
        due.answers("a refused check is none", 7, () -> x.wanting(0, 1));
        x.field(0, 7, 1);
        x.ask(0, 7, false);
        due.answers("it tells of the check", 7, () -> x.wanting(0, 1));
        x.check(1);
        due.unknown("the latest check", () -> x.wanting(0, 0));
    }

    private static void order(Due due) {
        ReportChecks2 x = new ReportChecks2();
        x.report(0, 0);
        x.ask(0, 19, true);
        x.ask(0, 2, true);
        Texts.rules(x, "1/0=1;1=2;1=1;2=1/0;2<1;f19=0;");
        due.same("fields, then rules together", "1:2 1:19 3:0 2:1 3:3 2:4", Texts.wanting(x, 0));
    }

    private static void comparisons(Due due) {
        due.same("below", "", broken("1<2;"));
        due.same("not below itself", "2:0", broken("2<2;"));
        due.same("above", "2:0", broken("3<2;"));
        due.same("the same", "", broken("2=2;"));
        due.same("below is not the same", "2:0", broken("1=2;"));
        due.same("above is not the same", "2:0", broken("3=2;"));
        due.same("below is not above", "", broken("1!2;"));
        due.same("the same is not above", "", broken("2!2;"));
        due.same("above is above", "2:0", broken("3!2;"));
    }

    private static void arithmetic(Due due) {
        due.same("from left to right", "", broken("10-3-2=5;10-3+2=9;1+2-3+4=4;"));
        due.same("a quotient first", "", broken("10-9/3=7;8/4-6/3=0;"));
        due.same("without what is behind the point", "", broken("7/2=3;99999/2=49999;1/2=0;"));
        due.same("towards 0", "", broken("f2/2=0-3;f2/f3=3;7/f3=0-3;0-7/2=0-3;"));
        due.same("the largest sums", "", broken(
                "99999+99999+99999+0=0-f4-f4-f4;"
                + "f4+f4+f4+f4<0-99999-99999-99999;"));
        due.same("fields on both sides", "2:1", broken("f1=f1;f1<f2;f2<f1;"));
    }

    private static void division(Due due) {
        due.same("by the number 0", "3:0", broken("1/0<2;"));
        due.same("by a field of 0", "3:0", broken("1/f0<2;"));
        due.same("0 by 0", "3:0", broken("f0/f0=1;"));
        due.same("on the second side", "3:0", broken("3<2/f0;"));
        due.same("in a later term", "3:0", broken("1+1+1+1/0<9;"));
        due.same("a divided 0", "", broken("f0/5=0;0/1=0;"));
        due.same("neither broken", "3:0 2:1", broken("5<1/0;5<1;"));
    }

    private static void asked(Due due) {
        due.same("an empty field on the first side", "", broken("f9<0;"));
        due.same("on the second side", "", broken("1<f9;"));
        due.same("in a divisor", "", broken("1/f9<0;"));
        due.same("in a later rule's divisor", "2:0", broken("1<0;1=1;1/f9<0;"));
        due.same("next to a division by 0", "", broken("1/0<f19;"));
        due.same("next to one that has a value", "", broken("f1+f9<f1;"));
        due.same("no field at all", "2:0", broken("1<0;"));
        ReportChecks2 x = new ReportChecks2();
        x.report(0, 0);
        Texts.rules(x, "f9+f8<0;f7<0;");
        Texts.rules(x, "1<0;f6<0;");
        due.same("the former rules' fields are forgotten", "2:0", Texts.wanting(x, 0));
        Texts.rules(x, "f9<0;");
        Texts.rules(x, "1<0;");
        due.same("and those of the ones before", "2:0", Texts.wanting(x, 0));
    }

    private static void allThatCanBeWanting(Due due) {
        ReportChecks2 x = new ReportChecks2();
        x.report(0, 0);
        for (int field = 0; field < 20; field++) {
            x.ask(0, field, true);
        }
        Texts.rules(x, "1<0;".repeat(20));
        due.answers("20 fields and 20 rules", 40, () -> x.check(0));
        due.answers("the last one", 2, () -> x.wanting(39, 0));
        due.answers("the last one", 19, () -> x.wanting(39, 1));
        due.answers("the last field", 19, () -> x.wanting(19, 1));
        due.unknown("behind it", () -> x.wanting(40, 0));
    }

    /** What is wanting in a report with f0 = 0, f1 = 5, f2 = -7, f3 = -2, f4 = -99,999. */
    private static String broken(String rules) {
        ReportChecks2 x = new ReportChecks2();
        x.report(0, 0);
        int[] values = {0, 5, -7, -2, -99_999};
        for (int field = 0; field < values.length; field++) {
            x.field(0, field, values[field]);
        }
        Texts.rules(x, rules);
        return Texts.wanting(x, 0);
    }
}
