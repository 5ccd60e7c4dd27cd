/**
 * The document's boundary cases, promise by promise: the smallest and the largest that are still taken,
 * empty and full, and what comes right behind them. What is refused stands in RefusalsTest.
 */
public final class EdgesTest {
    private static final int LOW = Integer.MIN_VALUE;
    private static final int HIGH = Integer.MAX_VALUE;
    private static final int[] ENDS = {0, 19};

    public static void main(String[] args) {
        Due due = new Due();
        newObject(due);
        firstAndLastReport(due);
        askEnds(due);
        fieldEnds(due);
        fieldUntilTold(due);
        actEnds(due);
        actOnFieldsToldByHand(due);
        insideEnds(due);
        signEnds(due);
        tapeEnds(due);
        placeAfterEveryText(due);
        checkEnds(due);
        wantingEnds(due);
        putEnds(due);
        putWithOneThingAmiss(due);
        editionEnds(due);
        editionOfFieldsByActs(due);
        faultEnds(due);
        hideEnds(due);
        codeEnds(due);
        atEnds(due);
        lateEnds(due);
        lateByNumbers(due);
        countEnds(due);
        reportAtEnds(due);
        valueEnds(due);
        tickEnds(due);
        due.end();
    }

    private static void newObject(Due due) {
        ReportChecks2 x = new ReportChecks2();
        for (int kind = 0; kind < 5; kind++) {
            int of = kind;
            due.answers("1: kind " + kind, kind, () -> x.report(0, of));
            due.answers("1: kind " + kind + " asks for nothing, no rules", 0, () -> x.check(of));
            due.answers("1: made at minute 0", 0, () -> x.reportAt(of, 2));
            due.answers("1: nothing keeps it from being signed", 1, () -> x.put(of, 0));
        }
        ReportChecks2 other = new ReportChecks2();
        due.unknown("1: objects share no reports", () -> other.reportAt(0, 0));
    }

    private static void firstAndLastReport(Due due) {
        ReportChecks2 x = new ReportChecks2();
        due.answers("2: incident 0, kind 0", 0, () -> x.report(0, 0));
        due.answers("2: incident 9,999, kind 4", 1, () -> x.report(9_999, 4));
        due.answers("2: the same once more is a new one", 2, () -> x.report(9_999, 4));
        for (int i = 3; i < 29; i++) {
            x.report(i, 0);
        }
        due.answers("2: the 30th", 29, () -> x.report(1, 1));
        due.noRoom("2: the 31st", () -> x.report(1, 1));
        due.answers("2: the 30th is known", 1, () -> x.reportAt(29, 0));
    }

    private static void askEnds(Due due) {
        for (int field : ENDS) {
            for (int kind = 0; kind < 5; kind++) {
                ReportChecks2 x = new ReportChecks2();
                x.report(0, kind);
                x.ask(kind, field, false);
                due.same("3: not asked, asked no more", "", Texts.wanting(x, 0));
                x.ask(kind, field, true);
                x.ask(kind, field, true);
                due.same("3: asked twice", "1:" + field, Texts.wanting(x, 0));
                x.ask(kind, field, false);
                due.same("3: once no more", "", Texts.wanting(x, 0));
            }
        }
    }

    private static void fieldEnds(Due due) {
        ReportChecks2 x = new ReportChecks2();
        x.report(0, 0);
        for (int field : ENDS) {
            for (int value : new int[] {-99_999, -1, 0, 1, 99_999}) {
                due.done("4: " + value + " in field " + field, () -> x.field(0, field, value));
                due.answers("4: field " + field, value, () -> x.value(0, field));
            }
        }
        x.put(0, 0);
        due.notNow("4: with the first signature", () -> x.field(0, 0, 0));
        due.notNow("4: an empty one too", () -> x.field(0, 5, 0));
    }

    private static void fieldUntilTold(Due due) {
        ReportChecks2 x = new ReportChecks2();
        x.report(0, 0);
        x.field(0, 19, 4);
        Texts.close(x, 0);
        x.fault(0, 19);
        x.fault(0, 0);
        due.outside("4: a refused value", () -> x.field(0, 19, 100_000));
        due.done("4: leaves it open; the same value is told too", () -> x.field(0, 19, 4));
        due.notNow("4: told then", () -> x.field(0, 19, 4));
        due.answers("4: the other one is open", 1, () -> x.reportAt(0, 6));
        due.done("4: an empty one that was reopened", () -> x.field(0, 0, 0));
        due.answers("4: none is open", 0, () -> x.reportAt(0, 6));
    }

    private static void actEnds(Due due) {
        ReportChecks2 x = new ReportChecks2();
        x.report(0, 0);
        due.outside("5: minute 1 is to come at minute 0", () -> x.act(0, 0, 1));
        due.yes("5: minute 0 at minute 0", x.act(0, 0, 0));
        x.tick(5_000);
        due.outside("5: the next minute", () -> x.act(0, 9, 5_001));
        due.yes("5: this minute", x.act(0, 9, 5_000));
        due.yes("5: not by the same minute", !x.act(0, 9, 5_000));
        due.yes("5: by one minute less", x.act(0, 9, 4_999));
        due.yes("5: not by one more again", !x.act(0, 9, 5_000));
        due.answers("5: what did not fill it left it", 4_999, () -> x.value(0, 9));
        due.yes("5: by the first minute", x.act(0, 9, 0));
        due.yes("5: never again", !x.act(0, 9, 0));
        due.yes("5: another field is still empty", x.act(0, 8, 5_000));
    }

    private static void actOnFieldsToldByHand(Due due) {
        ReportChecks2 x = new ReportChecks2();
        x.tick(20);
        x.report(0, 0);
        x.act(0, 3, 10);
        x.field(0, 3, 10);
        due.yes("5: told by hand with the act's own minute", !x.act(0, 3, 9));
        due.answers("5: left as it was", 10, () -> x.value(0, 3));
        x.field(0, 4, 0);
        due.yes("5: told with 0 is not empty", !x.act(0, 4, 0));
        x.field(0, 5, -1);
        due.yes("5: told below 0", !x.act(0, 5, 0));
        x.field(0, 6, 99_999);
        due.yes("5: told with a later minute", !x.act(0, 6, 20));
        due.answers("5: left as it was", 99_999, () -> x.value(0, 6));
    }

    private static void insideEnds(Due due) {
        ReportChecks2 x = new ReportChecks2();
        x.report(0, 0);
        for (int n : new int[] {0, 1, 99, 98, 0}) {
            due.done("6: " + n, () -> x.inside(0, n));
            due.answers("6: so many are inside, not more by so many", n, () -> x.reportAt(0, 5));
        }
        x.inside(0, 1);
        due.notNow("6: one person is enough", () -> x.put(0, 0));
    }

    private static void signEnds(Due due) {
        long bytes = Texts.packed("0<1;2<3;");
        for (int n = 1; n <= 8; n++) {
            ReportChecks2 x = new ReportChecks2();
            int count = n;
            due.answers("7: " + n + " bytes", n, () -> x.sign(bytes, count));
        }
        ReportChecks2 x = new ReportChecks2();
        x.sign(bytes, 8);
        due.answers("7: all eight, the highest first", 2, x::rules);
        x.sign(bytes, 4);
        due.answers("7: the lowest four", 1, x::rules);
        x.sign(bytes, 3);
        due.notNow("7: the lowest three", x::rules);
        due.answers("7: which begin with a sign", 0, x::place);
        x.sign(bytes, 2);
        due.notNow("7: the lowest two", x::rules);
        due.answers("7: which lack a sum", 1, x::place);
        x.sign(-1L >>> 8 << 8 | ' ', 1);
        due.answers("7: higher bytes are left out", 0, x::rules);
        x.sign(LOW * 4L, 8);
        due.notNow("7: a long below 0", x::rules);
        due.answers("7: its highest byte is wrong", 0, x::place);
    }

    private static void tapeEnds(Due due) {
        ReportChecks2 x = new ReportChecks2();
        Texts.write(x, " ".repeat(296));
        due.noRoom("7: 301 bytes", () -> x.sign(0, 5));
        due.answers("7: 300 bytes", 300, () -> x.sign(Texts.packed("0<1;"), 4));
        for (int n = 1; n <= 8; n++) {
            int count = n;
            due.noRoom("7: more on a full tape", () -> x.sign(0, count));
        }
        due.answers("8: a full tape", 1, x::rules);
        due.answers("8: is used up", 8, () -> x.sign(Texts.packed("0<1;0<0;"), 8));
        due.answers("8: and filled anew", 2, x::rules);
        due.answers("8: an empty tape", 0, x::rules);
        Texts.write(x, "x".repeat(300));
        due.notNow("8: a full wrong tape", x::rules);
        due.answers("8: is used up too", 1, () -> x.sign(' ', 1));
    }

    private static void placeAfterEveryText(Due due) {
        ReportChecks2 x = new ReportChecks2();
        due.answers("9: there was none", -1, x::place);
        x.sign('x', 1);
        due.answers("9: not yet a text", -1, x::place);
        due.notNow("9: wrong", x::rules);
        due.answers("9: at the first byte", 0, x::place);
        Texts.write(x, "0<1;");
        due.answers("9: the latest is still the wrong one", 0, x::place);
        due.answers("9: right", 1, x::rules);
        due.answers("9: it was right", -1, x::place);
        Texts.write(x, "0<1");
        due.notNow("9: a missing semicolon", x::rules);
        due.answers("9: its length", 3, x::place);
        due.answers("9: an empty text", 0, x::rules);
        due.answers("9: is right", -1, x::place);
    }

    private static void checkEnds(Due due) {
        ReportChecks2 x = new ReportChecks2();
        for (int i = 0; i < 30; i++) {
            x.report(i, 0);
        }
        for (int field : ENDS) {
            x.ask(0, field, true);
        }
        due.same("10: the first report, the first and the last field", "1:0 1:19", Texts.wanting(x, 0));
        x.field(29, 19, 0);
        due.same("10: the last report, a value of 0 is one", "1:0", Texts.wanting(x, 29));
        Texts.rules(x, "f19<0;" + "0<1;".repeat(18) + "1/f19=0;");
        due.same("10: the first and the last rule", "1:0 2:0 3:19", Texts.wanting(x, 29));
        due.same("10: not asked where field 19 is empty", "1:0 1:19", Texts.wanting(x, 28));
    }

    private static void wantingEnds(Due due) {
        ReportChecks2 x = new ReportChecks2();
        x.report(0, 0);
        due.answers("11: nothing is wanting", 0, () -> x.check(0));
        due.unknown("11: not even the first thing", () -> x.wanting(0, 0));
        x.ask(0, 0, true);
        due.unknown("11: the latest check was earlier", () -> x.wanting(0, 0));
        x.check(0);
        due.answers("11: the first and last thing is an empty field", 1, () -> x.wanting(0, 0));
        due.answers("11: field 0", 0, () -> x.wanting(0, 1));
        due.unknown("11: behind it", () -> x.wanting(1, 0));
        due.unknown("11: ahead of it", () -> x.wanting(-1, 1));
        Texts.rules(x, "1<0;");
        due.notNow("11: signing looks at the new rules", () -> x.put(0, 0));
        due.unknown("11: the latest check did not", () -> x.wanting(1, 0));
        x.check(0);
        due.answers("11: the next one does", 2, () -> x.wanting(1, 0));
    }

    private static void putEnds(Due due) {
        ReportChecks2 x = new ReportChecks2();
        x.report(0, 0);
        due.answers("12: person 0 first", 1, () -> x.put(0, 0));
        due.notNow("12: twice", () -> x.put(0, 0));
        due.answers("12: a refused one is none", 1, () -> x.reportAt(0, 3));
        due.answers("12: person 19 second", 2, () -> x.put(0, 19));
        due.notNow("12: the latest one again", () -> x.put(0, 19));
        due.notNow("12: the one before again", () -> x.put(0, 0));
        due.answers("12: a third one", 3, () -> x.put(0, 1));
        due.notNow("12: a fourth one", () -> x.put(0, 2));
        due.answers("12: three signatures", 3, () -> x.reportAt(0, 3));
        due.answers("12: the third person signed last", 1, () -> x.reportAt(0, 4));
        x.fault(0, 0);
        due.notNow("12: not when a field is open", () -> x.put(0, 2));
        x.field(0, 0, 0);
        due.notNow("12: nor when it was told", () -> x.put(0, 2));
    }

    private static void putWithOneThingAmiss(Due due) {
        String[] amiss = {"1<0;", "1/0<1;", "0<1;1<0;", "0<1;0<1;0/0=0;"};
        for (String rules : amiss) {
            ReportChecks2 x = new ReportChecks2();
            x.report(0, 0);
            Texts.rules(x, rules);
            due.notNow("12: with " + rules, () -> x.put(0, 0));
            x.rules();
            due.answers("12: without it", 1, () -> x.put(0, 0));
            Texts.rules(x, rules);
            due.notNow("12: a second one with " + rules, () -> x.put(0, 1));
        }
        ReportChecks2 x = new ReportChecks2();
        x.report(0, 0);
        x.ask(0, 19, true);
        due.notNow("12: with an empty field", () -> x.put(0, 0));
        x.field(0, 19, 0);
        due.answers("12: with a value of 0", 1, () -> x.put(0, 0));
    }

    private static void editionEnds(Due due) {
        ReportChecks2 x = new ReportChecks2();
        x.report(9_999, 4);
        for (int field = 0; field < 20; field++) {
            x.field(0, field, field % 2 == 0 ? -99_999 : 99_999);
        }
        Texts.close(x, 0);
        due.answers("13: a closed one", 1, () -> x.edition(0));
        for (int i = 0; i < 20; i++) {
            int field = i;
            due.answers("13: field " + i, i % 2 == 0 ? -99_999 : 99_999, () -> x.value(1, field));
        }
        due.notNow("13: the edition is not closed", () -> x.edition(1));
        due.done("13: it can be told", () -> x.field(1, 0, 0));
        due.answers("13: the former one stays", -99_999, () -> x.value(0, 0));
        due.notNow("13: the former one stays closed", () -> x.field(0, 0, 0));
        for (int i = 2; i < 30; i++) {
            int number = i;
            due.answers("13: edition " + i, number, () -> x.edition(0));
        }
        due.noRoom("13: the 31st report", () -> x.edition(0));
        due.answers("13: the last edition's former one", 0, () -> x.reportAt(29, 7));
        ReportChecks2 empty = new ReportChecks2();
        empty.report(0, 0);
        Texts.close(empty, 0);
        empty.edition(0);
        due.same("13: without any value", "R0,", Texts.code(empty, 1, 0));
    }

    private static void editionOfFieldsByActs(Due due) {
        ReportChecks2 x = new ReportChecks2();
        x.tick(2);
        x.report(0, 0);
        for (int kind : new int[] {0, 8, 9}) {
            x.act(0, kind, 1);
        }
        x.field(0, 8, 1);
        Texts.close(x, 0);
        x.fault(0, 9);
        x.edition(0);
        due.yes("13: by acts alone, not by the same minute", !x.act(1, 0, 1));
        due.yes("13: by acts alone, by an earlier one", x.act(1, 0, 0));
        due.yes("13: by hand", !x.act(1, 8, 0));
        due.yes("13: open and not told is by acts alone", x.act(1, 9, 0));
        due.yes("13: empty", x.act(1, 1, 2));
        due.answers("13: the former one stays", 1, () -> x.value(0, 0));
        due.answers("13: no field of the edition is open", 0, () -> x.reportAt(1, 6));
        due.answers("13: the former one's is", 1, () -> x.reportAt(0, 6));
        due.done("13: told behind the edition", () -> x.field(0, 9, 1));
        x.edition(0);
        due.yes("13: told when open is by hand", !x.act(2, 9, 0));
    }

    private static void faultEnds(Due due) {
        ReportChecks2 x = new ReportChecks2();
        x.report(0, 0);
        Texts.close(x, 0);
        for (int i = 0; i < 20; i++) {
            int field = i;
            due.done("14: field " + i, () -> x.fault(0, field));
            due.notNow("14: field " + i + " is open", () -> x.fault(0, field));
            due.answers("14: so many are open", i + 1, () -> x.reportAt(0, 6));
        }
        for (int i = 0; i < 20; i++) {
            int field = i;
            due.answers("14: not counted while one is open", 0, () -> x.count(0, LOW, HIGH));
            due.done("14: told", () -> x.field(0, field, field));
        }
        due.answers("14: counted when the last one was told", 1, () -> x.count(0, LOW, HIGH));
        due.done("14: reopened once more", () -> x.fault(0, 19));
        due.answers("14: three signatures still", 3, () -> x.reportAt(0, 3));
    }

    private static void hideEnds(Due due) {
        for (int field : ENDS) {
            for (int person : ENDS) {
                ReportChecks2 x = new ReportChecks2();
                x.report(0, 0);
                x.field(0, field, 5);
                x.hide(field, person, false);
                due.same("15: not hidden, hidden no more", "R0," + field + ":5;", Texts.code(x, 0, person));
                x.hide(field, person, true);
                x.hide(field, person, true);
                due.same("15: hidden twice", "R0," + field + ":*;", Texts.code(x, 0, person));
                due.same("15: not from the other", "R0," + field + ":5;", Texts.code(x, 0, 19 - person));
                x.hide(field, person, false);
                due.same("15: once no more", "R0," + field + ":5;", Texts.code(x, 0, person));
            }
        }
    }

    private static void codeEnds(Due due) {
        int[] incidents = {0, 9, 10, 99, 100, 999, 1_000, 9_999};
        for (int incident : incidents) {
            ReportChecks2 x = new ReportChecks2();
            x.report(incident, 0);
            due.same("16: incident " + incident, "R" + incident + ",", Texts.code(x, 0, 0));
        }
        int[] values = {-99_999, -10_000, -9_999, -100, -10, -9, -1, 0, 1, 9, 10, 99, 100, 101, 1_000, 9_999,
            10_000, 10_010, 99_999};
        for (int value : values) {
            ReportChecks2 x = new ReportChecks2();
            x.report(1, 0);
            x.field(0, 9, value);
            x.field(0, 10, value);
            String want = "R1,9:" + value + ";10:" + value + ";";
            due.same("16: value " + value, want, Texts.code(x, 0, 19));
        }
        ReportChecks2 x = new ReportChecks2();
        x.report(9_999, 0);
        for (int field = 0; field < 20; field++) {
            x.field(0, field, -99_999);
            x.hide(field, 19, true);
        }
        due.answers("16: the longest one", 196, () -> x.code(0, 0));
        due.answers("16: all hidden", 6 + 10 * 4 + 10 * 5, () -> x.code(0, 19));
        x.report(0, 0);
        due.answers("16: hidden fields without values", 3, () -> x.code(1, 19));
    }

    private static void atEnds(Due due) {
        ReportChecks2 x = new ReportChecks2();
        for (int i : new int[] {0, 1, 205, 206, HIGH}) {
            due.answers("17: without a code", -1, () -> x.at(i));
        }
        x.report(0, 0);
        for (int field = 0; field < 20; field++) {
            x.field(0, field, -99_999);
        }
        int length = x.code(0, 0);
        due.answers("17: its first byte", 'R', () -> x.at(0));
        due.answers("17: its last byte", ';', () -> x.at(length - 1));
        due.answers("17: right behind it", -1, () -> x.at(length));
        due.answers("17: far behind it", -1, () -> x.at(HIGH));
        x.report(0, 0);
        x.code(1, 0);
        due.answers("17: the last byte of a shorter one", ',', () -> x.at(2));
        for (int i = 3; i < length; i++) {
            int behind = i;
            due.answers("17: nothing of the longer one is left", -1, () -> x.at(behind));
        }
    }

    private static void lateEnds(Due due) {
        ReportChecks2 x = new ReportChecks2();
        x.report(0, 0);
        due.answers("18: not more than 0 minutes", -1, () -> x.late(0, 0));
        x.tick(1);
        due.answers("18: more than 0 minutes", 0, () -> x.late(0, 0));
        due.answers("18: not more than 1 minute", -1, () -> x.late(1, 0));
        for (int i = 0; i < 19; i++) {
            x.tick(5_000);
        }
        x.tick(4_998);
        due.answers("18: at the last minute, more than 99,998", 0, () -> x.late(99_998, 0));
        due.answers("18: nothing is more than 99,999 behind", -1, () -> x.late(99_999, 0));
        x.report(1, 0);
        due.answers("18: made in the last minute", -1, () -> x.late(0, 1));
        due.answers("18: far too many", -1, () -> x.late(0, HIGH));
        Texts.close(x, 0);
        due.answers("18: none is left", -1, () -> x.late(0, 0));
    }

    private static void lateByNumbers(Due due) {
        ReportChecks2 x = new ReportChecks2();
        for (int i = 0; i < 30; i++) {
            x.report(i, 0);
        }
        x.tick(1);
        for (int i = 0; i < 30; i++) {
            int number = i;
            due.answers("18: late one " + i, number, () -> x.late(0, number));
        }
        due.answers("18: there are not so many", -1, () -> x.late(0, 30));
        Texts.close(x, 0);
        Texts.close(x, 29);
        due.answers("18: the first that is not closed", 1, () -> x.late(0, 0));
        due.answers("18: the last that is not closed", 28, () -> x.late(0, 27));
        due.answers("18: there are 28", -1, () -> x.late(0, 28));
        x.put(1, 0);
        x.put(1, 1);
        due.answers("18: two signatures", 1, () -> x.late(0, 0));
        x.put(1, 2);
        due.answers("18: three signatures", 2, () -> x.late(0, 0));
        x.fault(1, 0);
        due.answers("18: a fault leaves it closed", 2, () -> x.late(0, 0));
    }

    private static void countEnds(Due due) {
        ReportChecks2 x = new ReportChecks2();
        for (int i = 0; i < 30; i++) {
            x.report(i, 0);
            x.field(i, 0, i % 2 == 0 ? -99_999 : 99_999);
            x.field(i, 19, 0);
            Texts.close(x, i);
        }
        due.answers("19: all 30, of all values", 30, () -> x.count(0, LOW, HIGH));
        due.answers("19: from the lowest to the highest value", 30, () -> x.count(0, -99_999, 99_999));
        due.answers("19: one less at each end", 0, () -> x.count(0, -99_998, 99_998));
        due.answers("19: the lowest alone", 15, () -> x.count(0, LOW, -99_999));
        due.answers("19: the highest alone", 15, () -> x.count(0, 99_999, HIGH));
        due.answers("19: field 19", 30, () -> x.count(19, 0, 0));
        due.answers("19: below it", 0, () -> x.count(19, LOW, -1));
        due.answers("19: above it", 0, () -> x.count(19, 1, HIGH));
        due.answers("19: low and high the lowest int", 0, () -> x.count(19, LOW, LOW));
        due.answers("19: low and high the highest int", 0, () -> x.count(19, HIGH, HIGH));
        due.answers("19: an empty field has no value, not 0", 0, () -> x.count(1, LOW, HIGH));
    }

    private static void reportAtEnds(Due due) {
        ReportChecks2 x = new ReportChecks2();
        for (int i = 0; i < 19; i++) {
            x.tick(5_000);
        }
        x.tick(4_999);
        x.report(9_999, 4);
        int[] want = {9_999, 4, 99_999, 0, -1, 0, 0, -1};
        for (int i = 0; i < want.length; i++) {
            int what = i;
            due.answers("20: what " + i + " of a report made last", want[i], () -> x.reportAt(0, what));
        }
        int[] signers = {0, 19, 1};
        for (int person : signers) {
            x.put(0, person);
            due.answers("20: the person who signed last", person, () -> x.reportAt(0, 4));
        }
        x.edition(0);
        due.answers("20: nobody has signed the edition", -1, () -> x.reportAt(1, 4));
        due.answers("20: it is an edition of report 0", 0, () -> x.reportAt(1, 7));
    }

    private static void valueEnds(Due due) {
        ReportChecks2 x = new ReportChecks2();
        x.report(0, 0);
        for (int field : ENDS) {
            due.notNow("21: field " + field + " is empty", () -> x.value(0, field));
            x.field(0, field, 0);
            due.answers("21: field " + field + " is 0", 0, () -> x.value(0, field));
        }
        Texts.close(x, 0);
        x.fault(0, 0);
        x.fault(0, 1);
        due.answers("21: an open field has its value", 0, () -> x.value(0, 0));
        due.notNow("21: an open empty one has none", () -> x.value(0, 1));
    }

    private static void tickEnds(Due due) {
        ReportChecks2 x = new ReportChecks2();
        due.outside("22: 0 minutes", () -> x.tick(0));
        due.outside("22: 5,001 minutes", () -> x.tick(5_001));
        due.answers("22: refused ones took no time; 1 minute", 1, () -> x.tick(1));
        due.answers("22: 5,000 minutes", 5_001, () -> x.tick(5_000));
        for (int i = 0; i < 18; i++) {
            x.tick(5_000);
        }
        due.outside("22: one beyond 99,999", () -> x.tick(4_999));
        due.answers("22: right up to it", 99_999, () -> x.tick(4_998));
        due.outside("22: not one more", () -> x.tick(1));
        due.outside("22: nor a wrap-around", () -> x.tick(HIGH));
    }
}
