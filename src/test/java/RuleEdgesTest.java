/** The boundary cases of rule texts and of what rules say: promises 8 to 10 and the document's terms. */
public final class RuleEdgesTest {
    private static final String RIGHT = "f10/12+345<f1-0/f19;0!99999;";

    public static void main(String[] args) {
        Due due = new Due();
        fieldNumbers(due);
        numbers(due);
        zerosInFront(due);
        blanksBetweenSigns(due);
        everyCut(due);
        everyByteBehindEveryCut(due);
        everyShortText(due);
        terms(due);
        twentyRules(due);
        longestTexts(due);
        rulesAtTheEnds(due);
        wrongTextsLeaveTheRules(due);
        nothingOfFormerTextsIsLeft(due);
        due.end();
    }

    private static void fieldNumbers(Due due) {
        for (int field = 0; field <= 400; field++) {
            int want = field < 20 ? -1 : field < 100 ? 2 : field < 200 ? 3 : 2;
            place(due, "f" + field + "<1;", want);
            place(due, "1<f" + field + ";", want < 0 ? -1 : want + 2);
            place(due, "1/f" + field + "<1;", want < 0 ? -1 : want + 2);
        }
        place(due, "f99999<1;", 2);
        place(due, "f100000<1;", 3);
        place(due, "f", 1);
        place(due, "f ", 2);
        place(due, "f<", 1);
    }

    private static void numbers(Due due) {
        for (int number : new int[] {0, 1, 9, 10, 99, 100, 999, 1_000, 9_999, 10_000, 99_998, 99_999}) {
            place(due, number + "<1;", -1);
            place(due, "1!1/" + number + ";", -1);
        }
        for (int number : new int[] {100_000, 100_001, 999_999, 1_000_000, Integer.MAX_VALUE}) {
            place(due, number + "<1;", 5);
            place(due, "1=" + number + ";", 7);
        }
        place(due, "2147483648<1;", 5);
        place(due, "4294967296<1;", 5);
        place(due, "18446744073709551617<1;", 5);
        place(due, "99999 9<1;", 6);
        place(due, "1".repeat(300), 5);
    }

    private static void zerosInFront(Due due) {
        place(due, "0<0;", -1);
        place(due, "f0<0;", -1);
        for (int digit = 0; digit <= 9; digit++) {
            place(due, "0" + digit + "<0;", 1);
            place(due, "f0" + digit + "<0;", 2);
            place(due, "1<0" + digit + ";", 3);
            place(due, "1/0" + digit + "<1;", 3);
        }
        place(due, "000000<1;", 1);
        place(due, "0 0<1;", 2);
        place(due, "10<100;", -1);
        place(due, "f10<1;", -1);
    }

    private static void blanksBetweenSigns(Due due) {
        for (int at = 0; at <= RIGHT.length(); at++) {
            boolean within = at > 0 && at < RIGHT.length()
                    && Character.isDigit(RIGHT.charAt(at - 1)) && Character.isDigit(RIGHT.charAt(at));
            for (int blanks = 1; blanks <= 3; blanks++) {
                String text = RIGHT.substring(0, at) + " ".repeat(blanks) + RIGHT.substring(at);
                place(due, text, within ? at + blanks : -1);
            }
        }
    }

    private static void everyCut(Due due) {
        for (int length = 0; length <= RIGHT.length(); length++) {
            boolean ended = length == 0 || RIGHT.charAt(length - 1) == ';';
            place(due, RIGHT.substring(0, length), ended ? -1 : length);
        }
    }

    private static void everyByteBehindEveryCut(Due due) {
        for (int length = 0; length <= RIGHT.length(); length++) {
            for (char next = 0; next <= 255; next++) {
                place(due, RIGHT.substring(0, length) + next);
            }
        }
    }

    private static void everyShortText(Due due) {
        everyTextBehind(due, "", 4);
        everyTextBehind(due, "1<", 3);
        everyTextBehind(due, "1<2+3+4+", 3);
    }

    private static void everyTextBehind(Due due, String text, int more) {
        place(due, text);
        for (int i = 0; more > 0 && i < "f0129<+/; ".length(); i++) {
            everyTextBehind(due, text + "f0129<+/; ".charAt(i), more - 1);
        }
    }

    private static void terms(Due due) {
        place(due, "1+2+3+4<1-2-3-4;", -1);
        place(due, "1/1+2/2+3/3+4/4=f1/f1-f2/f2-f3/f3-f4/f4;", -1);
        place(due, "1+2+3+4+5<1;", 7);
        place(due, "1+2+3+4-5<1;", 7);
        place(due, "1<1-2-3-4-5;", 9);
        place(due, "1<1-2-3-4+", 9);
        place(due, "1+2+3+4/5/6<1;", 9);
        place(due, "1+2+3+<1;", 6);
        place(due, "1/1+2/2+3/3+4/4+5<1;", 15);
    }

    private static void twentyRules(Due due) {
        String twenty = "0<1;".repeat(20);
        place(due, "0<1;".repeat(19), -1);
        place(due, twenty, -1);
        place(due, twenty + " ", -1);
        for (String more : new String[] {"0<1;", "f1<2;", "0", "f", "x", ";", "<", "+"}) {
            place(due, twenty + more, 80);
            place(due, twenty + "   " + more, 83);
        }
        ReportChecks2 x = new ReportChecks2();
        due.answers("19 rules", 19, () -> Texts.rules(x, "0<1;".repeat(19)));
        due.answers("20 rules", 20, () -> Texts.rules(x, twenty));
    }

    private static void longestTexts(Due due) {
        ReportChecks2 x = new ReportChecks2();
        x.report(0, 0);
        due.answers("20 rules in 300 bytes", 20, () -> Texts.rules(x, "99999/2<50000 ;".repeat(20)));
        due.answers("all of them hold", 0, () -> x.check(0));
        due.answers("20 other ones", 20, () -> Texts.rules(x, "99999/2!f0-1+2;".repeat(20)));
        due.answers("none of them is asked", 0, () -> x.check(0));
        x.field(0, 0, 49_997);
        due.answers("all of them are broken", 20, () -> x.check(0));
        x.field(0, 0, 49_998);
        due.answers("none of them is broken", 0, () -> x.check(0));
        String longest = "99999/99999+99999/99999-99999/99999-99999/99999";
        due.answers("the longest rule", 1, () -> Texts.rules(x, longest + "=" + longest + ";"));
        due.answers("it holds", 0, () -> x.check(0));
    }

    private static void rulesAtTheEnds(Due due) {
        says(due, "f0+f0+f0+f0<f0-99999-99999-99999;", 2);
        says(due, "f0+f0+f0+f0!f0-99999-99999-99999;", 0);
        says(due, "f1+f1+f1+f1=99999-f0-f0-f0;", 0);
        says(due, "f0/f0=1;", 0);
        says(due, "f1/f0=0-1;", 0);
        says(due, "f0/f3=99999;", 0);
        says(due, "f3/2=0;", 0);
        says(due, "0/f3=0;", 0);
        says(due, "1/f2=1;", 3);
        says(due, "f2/f2=1;", 3);
        says(due, "f2/0=f2;", 3);
        says(due, "1<1-1-1-1/f2;", 3);
        says(due, "1/f2<1/f2;", 3);
        says(due, "1/f2<f4;", 0);
        says(due, "1<f4/0;", 0);
        says(due, "f2<0;", 2);
        says(due, "f2!0;", 0);
        says(due, "f2=0;", 0);
        says(due, "f3<0;", 0);
        says(due, "f3!0-1;", 0);
        says(due, "0!f3;", 2);
    }

    /** Of a report with f0 = -99,999, f1 = 99,999, f2 = 0, f3 = -1; f4 is empty. */
    private static void says(Due due, String rule, int want) {
        ReportChecks2 x = new ReportChecks2();
        x.report(0, 0);
        int[] values = {-99_999, 99_999, 0, -1};
        for (int field = 0; field < values.length; field++) {
            x.field(0, field, values[field]);
        }
        Texts.rules(x, rule);
        due.same("rule " + rule, want == 0 ? "" : want + ":0", Texts.wanting(x, 0));
        due.same("signed under " + rule, want == 0 ? "1" : "throws IllegalStateException",
                Due.outcome(() -> x.put(0, 0)));
    }

    private static void wrongTextsLeaveTheRules(Due due) {
        String[] wrong = {"0<1;0<1;0", "0<1;".repeat(20) + "0", "f3<f20;", "x", "0<1", " ;"};
        for (String text : wrong) {
            ReportChecks2 x = new ReportChecks2();
            x.report(0, 0);
            Texts.rules(x, "1<0;0<1;1/0=1;");
            due.notNow("wrong: " + text, () -> Texts.rules(x, text));
            due.same("the rules stay behind " + text, "2:0 3:2", Texts.wanting(x, 0));
            due.answers("the next text begins anew", 4, () -> x.sign(Texts.packed("1=0;"), 4));
            due.answers("one rule", 1, x::rules);
            due.same("it takes the place of all three", "2:0", Texts.wanting(x, 0));
        }
    }

    private static void nothingOfFormerTextsIsLeft(Due due) {
        ReportChecks2 x = new ReportChecks2();
        x.report(0, 0);
        for (String former : new String[] {"1<1;", "1=1;", "1!1;", "1-1-1-1<f9/f9+1+1+1;"}) {
            due.same("1<1 behind " + former, "2:0", wantingBehind(x, former, "1<1;"));
            due.same("0=1 behind " + former, "2:0", wantingBehind(x, former, "0=1;"));
            due.same("1=1 behind " + former, "", wantingBehind(x, former, "1=1;"));
            due.same("0!1 behind " + former, "", wantingBehind(x, former, "0!1;"));
            due.same("1!1 behind " + former, "", wantingBehind(x, former, "1!1;"));
            due.same("2+1=3/1 behind " + former, "", wantingBehind(x, former, "2+1=3/1;"));
        }
        for (String behind : new String[] {"f19<9", "99999", "1<2;1", "f", "1+"}) {
            for (int length = 1; length < behind.length(); length++) {
                Texts.write(x, behind);
                due.notNow("wrong: " + behind, x::rules);
                String shorter = behind.substring(0, length);
                due.same("its first bytes alone, " + shorter, Integer.toString(Grammar.wrongPlace(shorter)),
                        placeOf(x, shorter));
            }
        }
        place(due, " ".repeat(299) + "1", 300);
        place(due, " ".repeat(299) + "f", 300);
        place(due, " ".repeat(298) + "f1", 300);
        place(due, " ".repeat(297) + "1<2", 300);
        place(due, " ".repeat(296) + "1<2;", -1);
    }

    /** The former rules come twice, should the class keep the ones before them too. */
    private static String wantingBehind(ReportChecks2 x, String former, String rules) {
        Texts.rules(x, former);
        Texts.rules(x, former);
        Texts.rules(x, rules);
        return Texts.wanting(x, 0);
    }

    private static String placeOf(ReportChecks2 x, String text) {
        Texts.write(x, text);
        Due.outcome(x::rules);
        return Integer.toString(x.place());
    }

    private static void place(Due due, String text, int want) {
        due.answers("place in '" + text + "'", want, () -> Texts.wrongPlace(text));
    }

    private static void place(Due due, String text) {
        place(due, text, Grammar.wrongPlace(text));
    }
}
