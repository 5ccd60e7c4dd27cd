import java.util.Random;
import java.util.regex.Matcher;
import java.util.regex.Pattern;

/** The rules' grammar as a pattern: another way to tell where a text is wrong, and texts at random. */
final class Grammar {
    private static final String NUMBER = "(?:0|[1-9][0-9]{0,4})";
    private static final String FACTOR = "(?:f *(?:1[0-9]|[0-9])|" + NUMBER + ")";
    private static final String TERM = FACTOR + "(?: */ *" + FACTOR + ")?";
    private static final String SUM = TERM + "(?: *[+-] *" + TERM + "){0,3}";
    private static final String RULE = SUM + " *[<=!] *" + SUM + " *;";
    private static final Pattern TEXT = Pattern.compile(" *(?:" + RULE + " *){0,20}");

    private Grammar() {
    }

    /** -1 when the text is right. */
    static int wrongPlace(String text) {
        if (TEXT.matcher(text).matches()) {
            return -1;
        }
        for (int length = 1; length <= text.length(); length++) {
            Matcher prefix = TEXT.matcher(text.substring(0, length));
            if (!prefix.matches() && !prefix.hitEnd()) {
                return length - 1;
            }
        }
        return text.length();
    }

    /** A right text, if it has at most 20 rules. */
    static String text(Random random, int rules) {
        StringBuilder text = new StringBuilder(blanks(random));
        for (int i = 0; i < rules; i++) {
            text.append(sum(random)).append("<=!".charAt(random.nextInt(3))).append(blanks(random));
            text.append(sum(random)).append(';').append(blanks(random));
        }
        return text.toString();
    }

    private static String sum(Random random) {
        StringBuilder sum = new StringBuilder(term(random));
        for (int more = random.nextInt(6) - 2; more > 0; more--) {
            sum.append("+-".charAt(random.nextInt(2))).append(blanks(random)).append(term(random));
        }
        return sum.toString();
    }

    private static String term(Random random) {
        String term = factor(random);
        return random.nextInt(3) == 0 ? term + "/" + blanks(random) + factor(random) : term;
    }

    private static String factor(Random random) {
        int[] highest = {3, 20, 1_000, 100_000};
        return random.nextBoolean()
                ? "f" + blanks(random) + random.nextInt(random.nextInt(4) == 0 ? 20 : 5) + blanks(random)
                : random.nextInt(highest[random.nextInt(4)]) + blanks(random);
    }

    private static String blanks(Random random) {
        return " ".repeat(Math.max(0, random.nextInt(12) - 9));
    }
}
