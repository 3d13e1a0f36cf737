import java.util.ArrayList;
import java.util.List;

/** Objects that the tests of single sentences begin with, and all that an object shows. */
final class Given {
    static final int MIN = Integer.MIN_VALUE, MAX = Integer.MAX_VALUE;
    /** A text of seven, of each kind. */
    static final String SEVEN = "n;s11;c11;t06;s21;s12;c01;s16";
    static final String FOUR = "n;s11;c11;t06;s21";

    private Given() { }

    /** What is asked of an object. */
    interface Call {
        long on(SilkWord x);
    }

    /** No street, but a row in each of the sheets 0 .. 2, of 4 cells, of the lane with its number. */
    static SilkWord rows() {
        SilkWord x = new SilkWord();
        for (int lane = 0; lane < 3; lane++) {
            x.sheet(lane, lane, 4);
            for (int i = 0; i < 4; i++) {
                x.put(lane, i, 20 * lane + i);
            }
        }
        return x;
    }

    /** A street of 4 persons in which something of each sort is; sheet 3 has nothing; the latest fault is INDEX. */
    static SilkWord busy() {
        SilkWord x = rows();
        Due.take(x, FOUR);
        x.lose(3);
        x.word(0, 3);
        x.word(2, 5);
        x.whisper(0, 1);
        x.bribe(3, true);
        x.reading(0, 3, true);
        x.reading(3, 39, false);
        x.reading(1, 0, false);
        x.tell(2);
        x.put(0, 4, 0);
        return x;
    }

    /** A busy street with as many words, whispers and readings as there may be. */
    static SilkWord full() {
        SilkWord x = busy();
        for (int k = 2; k < 6; k++) {
            x.word(k % 4, k);
        }
        for (int k = 1; k < 6; k++) {
            x.whisper(k % 2, 2 + k % 2);
        }
        for (int k = 3; k < 8; k++) {
            x.reading(3, k, false);
        }
        return x;
    }

    /** All that an object shows but its fault, in far less calls than an object is used for. */
    static List<Long> shown(SilkWord x) {
        List<Long> all = new ArrayList<>();
        all.add((long) x.trace());
        for (int what = 0; what < 4; what++) {
            all.add((long) x.many(what));
        }
        for (int p = 0; p < x.many(0); p++) {
            for (int what = 0; what < 5; what++) {
                all.add((long) x.ofPerson(p, what));
            }
            for (int day = 0; day < 9; day++) {
                all.add((long) x.heard(p, day, 1));
            }
            all.add((long) x.says(p));
        }
        for (int k = 0; k < x.many(1); k++) {
            all.add((long) x.worth(k));
        }
        for (int day = 0; day < 9; day++) {
            all.add((long) x.where(day));
        }
        all.add((long) x.paid());
        all.add((long) x.fewest());
        all.add((long) x.whispers(0));
        showSheets(x, all);
        return all;
    }

    private static void showSheets(SilkWord x, List<Long> all) {
        for (int k = 0; k < 4; k++) {
            for (int lane = 0; lane < 3; lane++) {
                all.add(x.cell(k, 0, lane));
                all.add((long) x.fault());
            }
            for (int i = 1; i < 6; i++) {
                all.add(x.cell(k, i, k));
            }
        }
    }
}
