import java.util.Random;

/** All promises: runs of 512 calls at random, each answer against the model's. */
public final class ModelTest {
    private static final int RUNS = 600;
    private static final int CALLS = 512;
    private static final int[] WILD = {Integer.MIN_VALUE, -100_000, -2, -1, 5, 8, 10, 20, 30, 32, 99, 100,
        300, 5_001, 10_000, 100_000, Integer.MAX_VALUE};

    private final Due due;
    private final Random random;
    private final boolean wild;
    private final ReportChecks2 x = new ReportChecks2();
    private final Model model = new Model();

    private ModelTest(Due due, int seed) {
        this.due = due;
        this.random = new Random(seed);
        this.wild = seed % 3 == 0;
    }

    public static void main(String[] args) {
        Due due = new Due();
        for (int seed = 0; seed < RUNS; seed++) {
            new ModelTest(due, seed).run(seed);
        }
        due.end();
    }

    private void run(int seed) {
        for (int call = 0; call < CALLS; call++) {
            String where = "run " + seed + ", call " + call + ": ";
            switch (random.nextInt(12)) {
                case 0, 1 -> making(where);
                case 2, 3, 4 -> telling(where);
                case 5, 6, 7 -> signing(where);
                case 8 -> ruling(where);
                case 9 -> checking(where);
                case 10 -> coding(where);
                default -> looking(where);
            }
        }
    }

    private void making(String where) {
        int a = any(0, 9_999);
        int kind = any(0, 2);
        int field = any(0, 3);
        int minutes = any(1, 60);
        boolean on = random.nextInt(3) == 0;
        switch (random.nextInt(3)) {
            case 0 -> same(where + "report", () -> x.report(a, kind), () -> model.report(a, kind));
            case 1 -> done(where + "ask", () -> x.ask(kind, field, on), () -> model.ask(kind, field, on));
            default -> same(where + "tick", () -> x.tick(minutes), () -> model.tick(minutes));
        }
    }

    private void telling(String where) {
        int report = any(0, 4);
        int field = any(0, random.nextInt(3) == 0 ? 19 : 4);
        int value = any(-3, random.nextInt(3) == 0 ? 99_999 : 9);
        int minute = any(0, 100);
        int n = any(0, 1);
        switch (random.nextInt(8)) {
            case 0 -> done(where + "inside", () -> x.inside(report, n), () -> model.inside(report, n));
            case 1, 2, 3 -> same(where + "act", () -> x.act(report, field, minute) ? 1 : 0,
                    () -> model.act(report, field, minute) ? 1 : 0);
            default -> done(where + "field", () -> x.field(report, field, value),
                    () -> model.field(report, field, value));
        }
    }

    private void signing(String where) {
        int report = any(0, 4);
        int person = any(0, 5);
        int field = any(0, 4);
        switch (random.nextInt(8)) {
            case 0 -> done(where + "fault", () -> x.fault(report, field), () -> model.fault(report, field));
            case 1 -> same(where + "edition", () -> x.edition(report), () -> model.edition(report));
            default -> same(where + "put", () -> x.put(report, person), () -> model.put(report, person));
        }
    }

    private void ruling(String where) {
        String text = Grammar.text(random, random.nextInt(random.nextInt(6) == 0 ? 22 : 3));
        if (wild && random.nextBoolean() && !text.isEmpty()) {
            text = text.substring(random.nextInt(text.length()));
        }
        for (int from = 0; from < text.length(); from += 8) {
            String part = text.substring(from, Math.min(text.length(), from + 8));
            long bytes = Texts.packed(part);
            int n = random.nextInt(40) == 0 ? any(1, 8) : part.length();
            same(where + "sign", () -> x.sign(bytes, n), () -> model.sign(bytes, n));
        }
        same(where + "rules", x::rules, model::rules);
        same(where + "place", x::place, model::place);
    }

    private void checking(String where) {
        int report = any(0, 4);
        same(where + "check", () -> x.check(report), () -> model.check(report));
        for (int left = random.nextInt(6); left > 0; left--) {
            int i = any(0, 5);
            int what = any(0, 1);
            same(where + "wanting", () -> x.wanting(i, what), () -> model.wanting(i, what));
        }
    }

    private void coding(String where) {
        int report = any(0, 4);
        int person = any(0, 3);
        int field = any(0, 19);
        boolean on = random.nextBoolean();
        done(where + "hide", () -> x.hide(field, person, on), () -> model.hide(field, person, on));
        same(where + "code", () -> x.code(report, person), () -> model.code(report, person));
        for (int left = random.nextInt(20); left > 0; left--) {
            int i = any(0, 30);
            same(where + "at", () -> x.at(i), () -> model.at(i));
        }
    }

    private void looking(String where) {
        int report = any(0, 5);
        int what = any(0, 7);
        int field = any(0, 5);
        int low = any(-5, 5);
        int high = any(Math.max(low, -5), 20);
        same(where + "reportAt", () -> x.reportAt(report, what), () -> model.reportAt(report, what));
        same(where + "value", () -> x.value(report, field), () -> model.value(report, field));
        same(where + "late", () -> x.late(high, report), () -> model.late(high, report));
        same(where + "count", () -> x.count(field, low, high), () -> model.count(field, low, high));
    }

    private int any(int low, int high) {
        if (wild && random.nextInt(12) == 0) {
            return WILD[random.nextInt(WILD.length)];
        }
        return low + (high > low ? random.nextInt(high - low + 1) : 0);
    }

    private void same(String call, Due.Answer got, Due.Answer want) {
        due.same(call, Due.outcome(want), Due.outcome(got));
    }

    private void done(String call, Runnable got, Runnable want) {
        due.same(call, Due.outcome(want), Due.outcome(got));
    }
}
