/** Counts the answers of one test that are not the ones that are due. */
final class Due {
    private final String test;
    private String under = "";
    private int checked;
    private int wrong;

    Due(String test) {
        this.test = test;
    }

    void is(String call, long got, long want) {
        checked++;
        if (got != want) {
            wrong++;
            System.out.println(test + ": " + under + call + " answered " + got + ", due is " + want);
        }
    }

    void isTrue(String what, boolean holds) {
        is(what, holds ? 1 : 0, 1);
    }

    /** One set of answers in a row, from number 0 on. */
    interface ByNumber {
        long answer(int number);
    }

    void row(String call, ByNumber asked, long... wants) {
        for (int k = 0; k < wants.length; k++) {
            is(call + " for " + k, asked.answer(k), wants[k]);
        }
    }

    /** The same is due of all. */
    void all(String calls, long want, long... got) {
        for (int k = 0; k < got.length; k++) {
            is(calls + " (the one numbered " + k + ")", got[k], want);
        }
    }

    /** What stands ahead of the lines that tell a wrong answer from now on. */
    void under(String words) {
        under = words;
    }

    int checked() {
        return checked;
    }

    int wrong() {
        return wrong;
    }

    void end() {
        System.out.println(test + ": " + checked + " checks, " + wrong + " wrong");
        if (wrong != 0 || checked == 0) {
            System.exit(1);
        }
    }

    /** A sheet gets a row that is just the text. */
    static void write(SilkWord x, int sheet, int lane, String text) {
        x.sheet(sheet, lane, text.length());
        for (int i = 0; i < text.length(); i++) {
            x.put(sheet, i, text.charAt(i));
        }
    }

    /** What a text answers that stands in sheet 3 alone. */
    static int take(SilkWord x, String text) {
        write(x, 3, 0, text);
        return x.street(3, 0, 0, text.length());
    }

    static SilkWord streetOf(String text) {
        SilkWord x = new SilkWord();
        if (take(x, text) < 2) {
            throw new IllegalStateException("the test's own text is wrong: " + text);
        }
        return x;
    }
}
