import java.util.Random;

/** Promises 7 to 9: sign, rules, place. */
public final class RuleTextTest {
    public static void main(String[] args) {
        Due due = new Due();
        sign(due);
        rules(due);
        rightTexts(due);
        wrongTexts(due);
        wrongNumbers(due);
        manyRules(due);
        fullTape(due);
        textsAtRandom(due);
        due.end();
    }

    private static void sign(Due due) {
        ReportChecks2 x = new ReportChecks2();
        due.outside("no bytes", () -> x.sign(0, 0));
        due.outside("bytes below 0", () -> x.sign(0, -1));
        due.outside("nine bytes", () -> x.sign(0, 9));
        due.outside("the lowest int", () -> x.sign(0, Integer.MIN_VALUE));
        due.answers("the lowest three", 3, () -> x.sign(Texts.packed("zzzzz1<2"), 3));
        due.answers("more", 4, () -> x.sign(';', 1));
        due.answers("the highest of these first", 1, x::rules);
        due.answers("used up", 8, () -> x.sign(-1L, 8));
        due.notNow("bytes of 255", x::rules);
        due.answers("bytes of 255", 0, x::place);
    }

    private static void rules(Due due) {
        ReportChecks2 x = new ReportChecks2();
        x.report(0, 0);
        due.answers("none", 0, x::rules);
        due.answers("two", 2, () -> Texts.rules(x, "1<2;2=3;"));
        due.same("the second is broken", "2:1", Texts.wanting(x, 0));
        due.notNow("a wrong text", () -> Texts.rules(x, "1<2;2"));
        due.answers("its place", 5, x::place);
        due.answers("the place stays", 5, x::place);
        due.same("the rules stay", "2:1", Texts.wanting(x, 0));
        due.answers("the wrong text is used up", 1, () -> x.sign('1', 1));
        x.sign(Texts.packed("=1;"), 3);
        due.answers("one instead of two", 1, x::rules);
        due.answers("a right text has no place", -1, x::place);
        due.same("the rules are others", "", Texts.wanting(x, 0));
        Texts.rules(x, "1=2;3=4;5=6;");
        due.answers("no text takes the rules away", 0, x::rules);
        due.same("no rules", "", Texts.wanting(x, 0));
        due.answers("blanks alone", 0, () -> Texts.rules(x, "   "));
    }

    private static void rightTexts(Due due) {
        String[] texts = {
            "", " ", "1<2;", "f0=f19;", "f1!f2;", "99999<99999;", "0<0;", "f10/f9=0;", "1+2-3+4<5-6+7-8;",
            "1/2+3/4-5/6+f7/f8!f9/1;", " f 1 + 2 / f 3 ! 7 - 0 ; ", "1<2; 3<4 ;5=6;  ", "f0<1;f1<10;f2<100;",
        };
        for (String text : texts) {
            due.answers("place in '" + text + "'", -1, () -> Texts.wrongPlace(text));
        }
    }

    private static void wrongTexts(Due due) {
        wrong(due, ";", 0);
        wrong(due, "<1;", 0);
        wrong(due, "  x", 2);
        wrong(due, "F1<2;", 0);
        wrong(due, "\t1<2;", 0);
        wrong(due, "1", 1);
        wrong(due, "1  ", 3);
        wrong(due, "1<", 2);
        wrong(due, "1<2", 3);
        wrong(due, "1<2;3", 5);
        wrong(due, "1<2;;", 4);
        wrong(due, "1 2<3;", 2);
        wrong(due, "1;", 1);
        wrong(due, "1<2<3;", 3);
        wrong(due, "1<=2;", 2);
        wrong(due, "1>2;", 1);
        wrong(due, "1*2<3;", 1);
        wrong(due, "+1<2;", 0);
        wrong(due, "1<-2;", 2);
        wrong(due, "1+-2<3;", 2);
        wrong(due, "1/2/3<4;", 3);
        wrong(due, "1/<4;", 2);
        wrong(due, "f<4;", 1);
        wrong(due, "ff1<4;", 1);
        wrong(due, "f-1<4;", 1);
        wrong(due, "1<f", 3);
        wrong(due, "1+2+3+4+5<6;", 7);
        wrong(due, "1+2+3+4 -5<6;", 8);
        wrong(due, "1<1/1+2/2-3/3-4/4-5;", 17);
        wrong(due, "1<1+2+3+4+", 9);
        wrong(due, "1<2;\u0000", 4);
        wrong(due, "1<2;\u00A0", 4);
    }

    private static void wrongNumbers(Due due) {
        wrong(due, "f20<1;", 2);
        wrong(due, "f99<1;", 2);
        wrong(due, "f100<1;", 3);
        wrong(due, "f190<1;", 3);
        wrong(due, "f200<1;", 2);
        wrong(due, "f123456<1;", 3);
        wrong(due, "f 20<1;", 3);
        wrong(due, "f00<1;", 2);
        wrong(due, "f01<1;", 2);
        wrong(due, "00<1;", 1);
        wrong(due, "056<1;", 1);
        wrong(due, "100000<1;", 5);
        wrong(due, "1234567<1;", 5);
        wrong(due, "1/012<1;", 3);
        wrong(due, "1<99999999999999999999;", 7);
        wrong(due, "f1 9<1;", 3);
        wrong(due, "1:<1;", 1);
        wrong(due, "f:<1;", 1);
    }

    private static void manyRules(Due due) {
        String twenty = "1<2;".repeat(20);
        due.answers("20 rules", -1, () -> Texts.wrongPlace(twenty));
        due.answers("20 rules and blanks", -1, () -> Texts.wrongPlace(twenty + "  "));
        wrong(due, twenty + "1<2;", 80);
        wrong(due, twenty + "  f", 82);
        wrong(due, twenty + ";", 80);
        ReportChecks2 x = new ReportChecks2();
        due.answers("20 rules", 20, () -> Texts.rules(x, twenty));
        due.notNow("21 rules", () -> Texts.rules(x, twenty + "1<2;"));
    }

    private static void fullTape(Due due) {
        ReportChecks2 x = new ReportChecks2();
        Texts.write(x, " ".repeat(293));
        due.noRoom("301 bytes", () -> x.sign(Texts.packed("    1<2;"), 8));
        due.answers("a refused one adds nothing", 296, () -> x.sign(Texts.packed("   "), 3));
        due.answers("300 bytes", 300, () -> x.sign(Texts.packed("1<2;"), 4));
        due.noRoom("one more", () -> x.sign(' ', 1));
        due.outside("n ahead of the room", () -> x.sign(' ', 9));
        due.answers("a full text", 1, x::rules);
        due.answers("room again", 1, () -> x.sign(' ', 1));
        Texts.write(x, " ".repeat(299));
        due.answers("300 blanks", 0, x::rules);
        Texts.write(x, "1<2;" + " ".repeat(295) + "1");
        due.notNow("a full text that goes on", x::rules);
        due.answers("its length", 300, x::place);
    }

    /** Every prefix is looked at by a pattern of the grammar: can it go on, or is it right? */
    private static void textsAtRandom(Due due) {
        Random random = new Random(20);
        for (int i = 0; i < 20_000; i++) {
            String text = random.nextBoolean() ? spoiled(random) : signs(random);
            due.answers("place in '" + text + "'", Grammar.wrongPlace(text), () -> Texts.wrongPlace(text));
        }
    }

    private static String signs(Random random) {
        String all = "ff1234567890<=!+-/; 01290;x";
        StringBuilder text = new StringBuilder();
        for (int left = random.nextInt(12); left > 0; left--) {
            text.append(all.charAt(random.nextInt(all.length())));
        }
        return text.toString();
    }

    private static String spoiled(Random random) {
        StringBuilder text = new StringBuilder(Grammar.text(random, 1 + random.nextInt(random.nextInt(8) == 0 ? 23 : 4)));
        for (int left = random.nextInt(3); left > 0; left--) {
            int at = random.nextInt(text.length());
            switch (random.nextInt(3)) {
                case 0 -> text.deleteCharAt(at);
                case 1 -> text.insert(at, "f0123 9<=!+-/;".charAt(random.nextInt(14)));
                default -> text.setCharAt(at, "f0123 9<=!+-/;".charAt(random.nextInt(14)));
            }
        }
        text.setLength(Math.min(300, text.length()));
        return text.toString();
    }

    private static void wrong(Due due, String text, int place) {
        due.answers("place in '" + text + "'", place, () -> Texts.wrongPlace(text));
        due.answers("the grammar's place in '" + text + "'", place, () -> Grammar.wrongPlace(text));
    }
}
