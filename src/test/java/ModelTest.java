import java.util.Random;

/** Runs of calls on the class and on the model: each answer is to be the same. */
public final class ModelTest {
    private static final Due DUE = new Due("ModelTest");
    private static final int RUNS = 1500, CALLS = 512, ENOUGH = 20;

    private final Random random;
    private final SilkWord x = new SilkWord();
    private final Model m = new Model();
    private final String run;
    private int calls;

    private ModelTest(int seed) {
        random = new Random(seed);
        run = "run " + seed;
    }

    public static void main(String[] args) {
        for (int seed = 0; seed < RUNS && DUE.wrong() < ENOUGH; seed++) {
            new ModelTest(seed).go();
        }
        DUE.end();
    }

    private void go() {
        if (random.nextInt(10) != 0) {
            text();
        }
        while (calls < CALLS && DUE.wrong() < ENOUGH) {
            step();
        }
    }

    private void due(String call, long got, long want) {
        calls++;
        DUE.is(run + " call " + calls + " " + call, got, want);
    }

    /** Mostly a number below the bound, sometimes one that is just outside, seldom one far outside. */
    private int number(int bound) {
        switch (random.nextInt(24)) {
            case 0:
                return -1;
            case 1:
                return bound;
            case 2:
                int[] far = {Integer.MIN_VALUE, Integer.MAX_VALUE, -2, bound + 1, 40, 64};
                return far[random.nextInt(far.length)];
            default:
                return random.nextInt(bound);
        }
    }

    private int person() {
        return random.nextInt(4) == 0 ? number(7) : number(Math.max(1, m.many(0)));
    }

    private int day() {
        return random.nextBoolean() ? random.nextInt(6) : number(40);
    }

    private void text() {
        StringBuilder text = new StringBuilder("n");
        int persons = random.nextInt(12) == 0 ? 1 + random.nextInt(8) : 2 + random.nextInt(6);
        int most = 1 + random.nextInt(6);
        for (int p = 0; p < persons; p++) {
            text.append(';').append("ssscct".charAt(random.nextInt(6)));
            text.append(random.nextInt(most)).append(random.nextInt(random.nextBoolean() ? 3 : 7));
        }
        if (random.nextInt(6) == 0) {
            text.setCharAt(random.nextInt(text.length()), "n;sct0567/x".charAt(random.nextInt(11)));
        }
        if (random.nextInt(8) == 0) {
            text.setLength(random.nextInt(text.length() + 1));
        }
        int sheet = random.nextInt(4);
        int lane = random.nextInt(3);
        int at = random.nextInt(4);
        int size = at + text.length() + random.nextInt(3);
        due("sheet", x.sheet(sheet, lane, size), m.sheet(sheet, lane, size));
        for (int i = 0; i < text.length(); i++) {
            due("put", x.put(sheet, at + i, text.charAt(i)), m.put(sheet, at + i, text.charAt(i)));
        }
        due("street of " + text, x.street(sheet, lane, at, text.length()), m.street(sheet, lane, at, text.length()));
    }

    private void order() {
        int sheet = random.nextInt(4);
        int lane = random.nextInt(3);
        int size = random.nextInt(9) == 0 ? 18 + random.nextInt(6) : random.nextInt(9);
        due("sheet", x.sheet(sheet, lane, size), m.sheet(sheet, lane, size));
        int[] row = random.ints(0, Math.max(1, m.many(0))).distinct().limit(Math.max(1, m.many(0))).toArray();
        for (int i = 0; i < size; i++) {
            int p = random.nextInt(9) == 0 ? random.nextInt(8) : row[i % row.length];
            due("put", x.put(sheet, i, p), m.put(sheet, i, p));
        }
        int n = random.nextInt(3) == 0 ? number(24) : size;
        due("asked", x.asked(sheet, lane, 0, n), m.asked(sheet, lane, 0, n));
        if (row.length <= size) {
            due("asked", x.asked(sheet, lane, 0, row.length), m.asked(sheet, lane, 0, row.length));
        }
    }

    private void step() {
        switch (random.nextInt(20)) {
            case 0:
                if (random.nextInt(8) == 0) {
                    text();
                }
                break;
            case 1:
                order();
                break;
            case 2, 3, 4, 5, 6, 7:
                change();
                break;
            case 8, 9, 10:
                sheets();
                break;
            case 11, 12:
                parts();
                break;
            default:
                question();
        }
    }

    private void change() {
        int p = person();
        int q = person();
        int day = day();
        int k = random.nextInt(3) == 0 ? number(8) : random.nextInt(2);
        boolean is = random.nextBoolean();
        switch (random.nextInt(9)) {
            case 0, 1:
                due("word(" + p + ", " + day + ")", x.word(p, day), m.word(p, day));
                break;
            case 2:
                due("unsay(" + k + ")", x.unsay(k), m.unsay(k));
                break;
            case 3:
                due("bribe(" + p + ", " + is + ")", x.bribe(p, is), m.bribe(p, is));
                break;
            case 4:
                due("whisper(" + p + ", " + q + ")", x.whisper(p, q), m.whisper(p, q));
                break;
            case 5:
                due("forget(" + k + ")", x.forget(k), m.forget(k));
                break;
            case 6, 7:
                // Mostly what is so, or all readings would soon be unlike.
                boolean had = m.says(p) >= 0 && m.says(p) <= day;
                had ^= random.nextInt(5) == 0;
                due("reading(" + p + ", " + day + ", " + had + ")", x.reading(p, day, had), m.reading(p, day, had));
                break;
            default:
                due("back(" + k + ")", x.back(k), m.back(k));
        }
    }

    private void question() {
        int p = person();
        int day = day();
        int what = number(2);
        int k = number(6);
        switch (random.nextInt(16)) {
            case 0, 1:
                due("says(" + p + ")", x.says(p), m.says(p));
                break;
            case 2:
                due("crowd(" + day + ")", x.crowd(day), m.crowd(day));
                break;
            case 3, 4:
                due("heard(" + p + ", " + day + ", " + what + ")", x.heard(p, day, what), m.heard(p, day, what));
                break;
            case 5:
                due("silence()", x.silence(), m.silence());
                break;
            case 6:
                due("noticed()", x.noticed(), m.noticed());
                break;
            case 7:
                due("fewest()", x.fewest(), m.fewest());
                break;
            case 8:
                due("bribes(" + p + ")", x.bribes(p), m.bribes(p));
                break;
            case 9:
                due("whispers(" + what + ")", x.whispers(what), m.whispers(what));
                break;
            case 10:
                due("worth(" + k + ")", x.worth(k), m.worth(k));
                break;
            case 11:
                due("where(" + day + ")", x.where(day), m.where(day));
                break;
            case 12:
                due("paid()", x.paid(), m.paid());
                break;
            case 13:
                due("odds(" + p + ", " + day + ", " + what + ")", x.odds(p, day, what), m.odds(p, day, what));
                break;
            case 14:
                due("ofPerson(" + p + ", " + k + ")", x.ofPerson(p, k), m.ofPerson(p, k));
                break;
            default:
                due("many(" + k + ")", x.many(k), m.many(k));
        }
    }

    private void sheets() {
        int k = number(4);
        int other = random.nextBoolean() ? k : number(4);
        int lane = number(3);
        int i = number(30);
        int j = random.nextInt(3) == 0 ? number(60) : random.nextInt(8);
        int n = random.nextInt(3) == 0 ? number(60) : random.nextInt(8);
        int v = random.nextBoolean() ? random.nextInt() : random.nextInt(400) - 200;
        switch (random.nextInt(8)) {
            case 0:
                due("sheet(" + k + ", " + lane + ", " + n + ")", x.sheet(k, lane, n), m.sheet(k, lane, n));
                break;
            case 1:
                due("lose(" + k + ")", x.lose(k), m.lose(k));
                break;
            case 2, 3:
                due("put(" + k + ", " + i + ", " + v + ")", x.put(k, i, v), m.put(k, i, v));
                break;
            case 4:
                due("cell(" + k + ", " + i + ", " + lane + ")", x.cell(k, i, lane), m.cell(k, i, lane));
                break;
            case 5:
                due("copy(" + k + ", " + i + ", " + other + ", " + j + ", " + n + ")",
                        x.copy(k, i, other, j, n), m.copy(k, i, other, j, n));
                break;
            case 6:
                due("street(" + k + ", " + lane + ", " + i + ", " + n + ")", x.street(k, lane, i, n), m.street(k, lane, i, n));
                break;
            default:
                due("asked(" + k + ", " + lane + ", " + i + ", " + n + ")", x.asked(k, lane, i, n), m.asked(k, lane, i, n));
        }
        due("fault()", x.fault(), m.fault());
    }

    private void parts() {
        int p = person();
        int kind = number(3);
        switch (random.nextInt(4)) {
            case 0:
                due("tell(" + p + ")", x.tell(p), m.tell(p));
                break;
            case 1:
                due("bow(" + p + ")", x.bow(p), m.bow(p));
                break;
            case 2:
                due("as(" + p + ", " + kind + ")", x.as(p, kind), m.as(p, kind));
                due("fault()", x.fault(), m.fault());
                break;
            default:
                due("trace()", x.trace(), m.trace());
        }
    }
}
