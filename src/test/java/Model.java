import java.util.ArrayList;
import java.util.HashSet;
import java.util.List;
import java.util.Set;
import java.util.TreeMap;
import java.util.TreeSet;
import java.util.regex.Matcher;
import java.util.regex.Pattern;

/** The document written a second time, with the Java library and without care for room or speed. */
final class Model {
    private static final Pattern RULE = Pattern.compile("([^<=!]+)([<=!])([^<=!]+)");
    private static final Pattern TERM = Pattern.compile("([+-]?)(f?\\d+)(?:/(f?\\d+))?");
    private static final Pattern FIELD = Pattern.compile("f(\\d+)");

    private static final class Sheet {
        int incident;
        int kind;
        int made;
        int former = -1;
        int inside = 0;
        final TreeMap<Integer, Integer> values = new TreeMap<>();
        final Set<Integer> byActs = new HashSet<>();
        final Set<Integer> open = new HashSet<>();
        final List<Integer> signers = new ArrayList<>();
    }

    private final List<Sheet> sheets = new ArrayList<>();
    private final Set<String> asked = new HashSet<>();
    private final Set<String> hidden = new HashSet<>();
    private List<String> rules = new ArrayList<>();
    private StringBuilder tape = new StringBuilder();
    private List<int[]> wanting = new ArrayList<>();
    private String code = "";
    private int place = -1;
    private int now = 0;

    int report(int incident, int kind) {
        unknown(kind, 5);
        range(incident, 0, 9_999);
        return add(sheet(incident, kind, -1));
    }

    void ask(int kind, int field, boolean on) {
        unknown(kind, 5);
        unknown(field, 20);
        set(asked, kind + " " + field, on);
    }

    void field(int report, int field, int value) {
        Sheet sheet = of(report);
        unknown(field, 20);
        range(value, -99_999, 99_999);
        state(sheet.signers.isEmpty() || sheet.open.contains(field));
        sheet.values.put(field, value);
        sheet.byActs.remove(field);
        sheet.open.remove(field);
    }

    boolean act(int report, int kind, int minute) {
        Sheet sheet = of(report);
        unknown(kind, 10);
        range(minute, 0, now);
        state(sheet.signers.isEmpty());
        Integer value = sheet.values.get(kind);
        if (value != null && (!sheet.byActs.contains(kind) || value <= minute)) {
            return false;
        }
        sheet.values.put(kind, minute);
        sheet.byActs.add(kind);
        return true;
    }

    void inside(int report, int n) {
        Sheet sheet = of(report);
        range(n, 0, 99);
        state(sheet.signers.isEmpty());
        sheet.inside = n;
    }

    int sign(long bytes, int n) {
        range(n, 1, 8);
        room(tape.length() + n <= 300);
        for (int i = 8 - n; i < 8; i++) {
            tape.append((char) (bytes << 8 * i >>> 56));
        }
        return tape.length();
    }

    int rules() {
        String text = tape.toString();
        tape = new StringBuilder();
        place = Grammar.wrongPlace(text);
        state(place < 0);
        rules = new ArrayList<>();
        for (String rule : text.replace(" ", "").split(";")) {
            if (!rule.isEmpty()) {
                rules.add(rule);
            }
        }
        return rules.size();
    }

    int place() {
        return place;
    }

    int check(int report) {
        wanting = wantingIn(of(report));
        return wanting.size();
    }

    int wanting(int i, int what) {
        unknown(i, wanting.size());
        unknown(what, 2);
        return wanting.get(i)[what];
    }

    int put(int report, int person) {
        Sheet sheet = of(report);
        unknown(person, 20);
        state(wantingIn(sheet).isEmpty());
        state(sheet.inside == 0);
        state(sheet.open.isEmpty());
        state(sheet.signers.size() < 3);
        state(!sheet.signers.contains(person));
        sheet.signers.add(person);
        return sheet.signers.size();
    }

    int edition(int report) {
        Sheet former = of(report);
        state(former.signers.size() == 3);
        Sheet next = sheet(former.incident, former.kind, report);
        next.values.putAll(former.values);
        next.byActs.addAll(former.byActs);
        return add(next);
    }

    void fault(int report, int field) {
        Sheet sheet = of(report);
        unknown(field, 20);
        state(sheet.signers.size() == 3);
        state(sheet.open.add(field));
    }

    void hide(int field, int person, boolean on) {
        unknown(field, 20);
        unknown(person, 20);
        set(hidden, field + " " + person, on);
    }

    int code(int report, int person) {
        Sheet sheet = of(report);
        unknown(person, 20);
        StringBuilder text = new StringBuilder("R" + sheet.incident + ",");
        sheet.values.forEach((field, value) -> text.append(field).append(':')
                .append(hidden.contains(field + " " + person) ? "*" : value.toString()).append(';'));
        code = text.toString();
        return code.length();
    }

    int at(int i) {
        range(i, 0, Integer.MAX_VALUE);
        return i < code.length() ? code.charAt(i) : -1;
    }

    int late(int minutes, int i) {
        range(minutes, 0, 99_999);
        range(i, 0, Integer.MAX_VALUE);
        List<Integer> late = new ArrayList<>();
        for (int n = 0; n < sheets.size(); n++) {
            if (sheets.get(n).signers.size() < 3 && sheets.get(n).made + minutes < now) {
                late.add(n);
            }
        }
        return i < late.size() ? late.get(i) : -1;
    }

    int count(int field, int low, int high) {
        unknown(field, 20);
        range(low, Integer.MIN_VALUE, high);
        return (int) sheets.stream().filter(sheet -> sheet.signers.size() == 3 && sheet.open.isEmpty())
                .filter(sheet -> sheet.values.containsKey(field))
                .filter(sheet -> low <= sheet.values.get(field) && sheet.values.get(field) <= high).count();
    }

    int reportAt(int report, int what) {
        Sheet sheet = of(report);
        unknown(what, 8);
        int signatures = sheet.signers.size();
        int last = signatures == 0 ? -1 : sheet.signers.get(signatures - 1);
        return new int[] {sheet.incident, sheet.kind, sheet.made, signatures, last, sheet.inside,
            sheet.open.size(), sheet.former}[what];
    }

    int value(int report, int field) {
        Sheet sheet = of(report);
        unknown(field, 20);
        state(sheet.values.containsKey(field));
        return sheet.values.get(field);
    }

    int tick(int minutes) {
        range(minutes, 1, 5_000);
        range(now + minutes, 0, 99_999);
        now += minutes;
        return now;
    }

    private List<int[]> wantingIn(Sheet sheet) {
        List<int[]> found = new ArrayList<>();
        for (int field = 0; field < 20; field++) {
            if (asked.contains(sheet.kind + " " + field) && !sheet.values.containsKey(field)) {
                found.add(new int[] {1, field});
            }
        }
        for (int rule = 0; rule < rules.size(); rule++) {
            int verdict = verdict(rules.get(rule), sheet);
            if (verdict != 0) {
                found.add(new int[] {verdict, rule});
            }
        }
        return found;
    }

    private static int verdict(String rule, Sheet sheet) {
        Set<Integer> told = new TreeSet<>();
        FIELD.matcher(rule).results().forEach(field -> told.add(Integer.valueOf(field.group(1))));
        if (!sheet.values.keySet().containsAll(told)) {
            return 0;
        }
        Matcher parts = RULE.matcher(rule);
        if (!parts.matches()) {
            throw new AssertionError(rule);
        }
        try {
            int order = Integer.compare(sum(parts.group(1), sheet), sum(parts.group(3), sheet));
            String sign = parts.group(2);
            boolean holds = sign.equals("<") ? order < 0 : sign.equals("=") ? order == 0 : order <= 0;
            return holds ? 0 : 2;
        } catch (ArithmeticException e) {
            return 3;
        }
    }

    private static int sum(String sum, Sheet sheet) {
        int total = 0;
        Matcher term = TERM.matcher(sum);
        while (term.find()) {
            int quotient = factor(term.group(2), sheet)
                    / (term.group(3) == null ? 1 : factor(term.group(3), sheet));
            total += term.group(1).equals("-") ? -quotient : quotient;
        }
        return total;
    }

    private static int factor(String factor, Sheet sheet) {
        return factor.startsWith("f")
                ? sheet.values.get(Integer.valueOf(factor.substring(1)))
                : Integer.parseInt(factor);
    }

    private Sheet sheet(int incident, int kind, int former) {
        Sheet sheet = new Sheet();
        sheet.incident = incident;
        sheet.kind = kind;
        sheet.made = now;
        sheet.former = former;
        return sheet;
    }

    private int add(Sheet sheet) {
        room(sheets.size() < 30);
        sheets.add(sheet);
        return sheets.size() - 1;
    }

    private Sheet of(int report) {
        unknown(report, sheets.size());
        return sheets.get(report);
    }

    private static void set(Set<String> set, String key, boolean on) {
        if (on) {
            set.add(key);
        } else {
            set.remove(key);
        }
    }

    private static void unknown(int number, int bound) {
        if (number < 0 || number >= bound) {
            throw new IllegalArgumentException();
        }
    }

    private static void range(int number, int low, int high) {
        if (number < low || number > high) {
            throw new IndexOutOfBoundsException();
        }
    }

    private static void state(boolean fits) {
        if (!fits) {
            throw new IllegalStateException();
        }
    }

    private static void room(boolean enough) {
        if (!enough) {
            throw new UnsupportedOperationException();
        }
    }
}
