/** Texts to and from the object under test. */
final class Texts {
    private Texts() {
    }

    static void write(ReportChecks2 x, String text) {
        for (int from = 0; from < text.length(); from += 8) {
            String part = text.substring(from, Math.min(text.length(), from + 8));
            x.sign(packed(part), part.length());
        }
    }

    static long packed(String part) {
        long bytes = 0;
        for (int i = 0; i < part.length(); i++) {
            bytes = bytes << 8 | part.charAt(i) & 0xFF;
        }
        return bytes;
    }

    static int rules(ReportChecks2 x, String text) {
        write(x, text);
        return x.rules();
    }

    /** -1 when the text is right. */
    static int wrongPlace(String text) {
        ReportChecks2 x = new ReportChecks2();
        write(x, text);
        try {
            x.rules();
        } catch (IllegalStateException e) {
            return x.place();
        }
        if (x.place() != -1) {
            throw new IllegalArgumentException("a place for a text that was taken");
        }
        return -1;
    }

    static String code(ReportChecks2 x, int report, int person) {
        int length = x.code(report, person);
        StringBuilder code = new StringBuilder();
        for (int i = 0; i < length; i++) {
            code.append((char) x.at(i));
        }
        return code.toString();
    }

    static String wanting(ReportChecks2 x, int report) {
        int size = x.check(report);
        StringBuilder told = new StringBuilder();
        for (int i = 0; i < size; i++) {
            told.append(x.wanting(i, 0)).append(':').append(x.wanting(i, 1)).append(' ');
        }
        return told.toString().trim();
    }

    static void close(ReportChecks2 x, int report) {
        x.put(report, 17);
        x.put(report, 18);
        x.put(report, 19);
    }
}
