/** Promises 24 to 34: sheet, lose, put, cell, copy, tell, bow, as, trace, fault, many. */
public final class SheetsTest {
    private static final Due DUE = new Due("SheetsTest");
    private static final long LOST = SilkWord.LOST;

    public static void main(String[] args) {
        sheet();
        sheetOrderOfRefusals();
        lose();
        put();
        cell();
        copy();
        copyOfItself();
        copyOrderOfRefusals();
        copyIndex();
        tell();
        bow();
        as();
        traceWraps();
        faultOfTheLatestCallThatNamesOne();
        many();
        DUE.end();
    }

    private static void sheet() {
        SilkWord x = new SilkWord();
        DUE.is("sheet(0, 2, 60)", x.sheet(0, 2, 60), 1);
        DUE.row("cells are 0 at first", i -> x.cell(0, i, 2), 0, 0, 0);
        DUE.is("put(0, 59, 7)", x.put(0, 59, 7), 1);
        DUE.is("put(0, 60, 7)", x.put(0, 60, 7), -13);
        DUE.is("sheet(0, 2, 60) again", x.sheet(0, 2, 60), 1);
        DUE.is("cell(0, 59, 2): a new row", x.cell(0, 59, 2), 0);
        DUE.is("sheet(3, 0, 0)", x.sheet(3, 0, 0), 1);
        DUE.is("put(3, 0, 0): a row of none", x.put(3, 0, 0), -13);
        DUE.is("sheet(0, 1, 2): of another lane", x.sheet(0, 1, 2), 1);
        DUE.is("cell(0, 0, 2)", x.cell(0, 0, 2), LOST);
        DUE.is("fault()", x.fault(), 2);
        DUE.is("cell(0, 1, 1)", x.cell(0, 1, 1), 0);
        DUE.is("cell(0, 2, 1)", x.cell(0, 2, 1), LOST);
        DUE.is("fault()", x.fault(), 3);
    }

    private static void sheetOrderOfRefusals() {
        SilkWord x = new SilkWord();
        x.sheet(1, 1, 4);
        x.put(1, 3, 5);
        DUE.is("sheet(4, 3, 61)", x.sheet(4, 3, 61), -1);
        DUE.is("sheet(-1, 0, 1)", x.sheet(-1, 0, 1), -1);
        DUE.is("sheet(1, 3, -1)", x.sheet(1, 3, -1), -2);
        DUE.is("sheet(1, -1, 1)", x.sheet(1, -1, 1), -2);
        DUE.is("sheet(1, 0, 61)", x.sheet(1, 0, 61), -2);
        DUE.is("sheet(1, 0, MAX)", x.sheet(1, 0, Integer.MAX_VALUE), -2);
        DUE.is("fault()", x.fault(), 0);
        DUE.is("sheet(1, 0, -1)", x.sheet(1, 0, -1), -14);
        DUE.is("fault()", x.fault(), 4);
        DUE.is("sheet(1, 0, MIN)", x.sheet(1, 0, Integer.MIN_VALUE), -14);
        DUE.is("cell(1, 3, 1): the row is as it was", x.cell(1, 3, 1), 5);
        DUE.is("sheet(0, 0, -1)", x.sheet(0, 0, -1), -14);
        DUE.is("lose(0): it has nothing still", x.lose(0), 0);
    }

    private static void lose() {
        SilkWord x = new SilkWord();
        DUE.is("lose(0)", x.lose(0), 0);
        x.sheet(0, 0, 0);
        DUE.is("lose(0)", x.lose(0), 1);
        DUE.is("lose(0) again", x.lose(0), 0);
        DUE.is("put(0, 0, 1)", x.put(0, 0, 1), -11);
        DUE.is("lose(4)", x.lose(4), -1);
        DUE.is("lose(-1)", x.lose(-1), -1);
        x.sheet(2, 2, 9);
        x.put(2, 0, 5);
        x.lose(2);
        x.sheet(2, 2, 9);
        DUE.is("cell(2, 0, 2) of the new row", x.cell(2, 0, 2), 0);
    }

    private static void put() {
        SilkWord x = new SilkWord();
        x.sheet(1, 1, 3);
        DUE.is("put(4, -1, 0)", x.put(4, -1, 0), -1);
        DUE.is("put(-1, 0, 0)", x.put(-1, 0, 0), -1);
        DUE.is("put(0, -1, 0)", x.put(0, -1, 0), -11);
        DUE.is("fault()", x.fault(), 1);
        DUE.is("put(1, -1, 0)", x.put(1, -1, 0), -13);
        DUE.is("fault()", x.fault(), 3);
        DUE.is("put(1, 3, 0)", x.put(1, 3, 0), -13);
        DUE.is("put(1, MIN, 0)", x.put(1, Integer.MIN_VALUE, 0), -13);
        DUE.is("put(1, MAX, 0)", x.put(1, Integer.MAX_VALUE, 0), -13);
        DUE.is("put(1, 2, -32768)", x.put(1, 2, -32768), 1);
        DUE.is("fault()", x.fault(), 0);
        DUE.row("cells", i -> x.cell(1, i, 1), 0, 0, -32768);
    }

    private static void cell() {
        SilkWord x = new SilkWord();
        int[] values = {127, 128, 255, -129, 32767, 32768, 65535, -32769, Integer.MAX_VALUE, Integer.MIN_VALUE};
        for (int lane = 0; lane < 3; lane++) {
            x.sheet(lane, lane, values.length);
            for (int i = 0; i < values.length; i++) {
                x.put(lane, i, values[i]);
            }
        }
        DUE.row("bytes", i -> x.cell(0, i, 0), 127, -128, -1, 127, -1, 0, -1, -1, -1, 0);
        DUE.row("shorts", i -> x.cell(1, i, 1), 127, 128, 255, -129, 32767, -32768, -1, 32767, -1, 0);
        DUE.row("ints", i -> x.cell(2, i, 2), 127, 128, 255, -129, 32767, 32768, 65535, -32769, Integer.MAX_VALUE, Integer.MIN_VALUE);
        lost(x, "UNKNOWN", x.cell(4, 0, 0), 0);
        lost(x, "UNKNOWN", x.cell(-1, 0, 0), 0);
        lost(x, "CAST ahead of INDEX", x.cell(0, -1, 1), 2);
        lost(x, "OUTSIDE: lane", x.cell(0, 0, 3), 0);
        lost(x, "INDEX", x.cell(0, 10, 0), 3);
        lost(x, "OUTSIDE: lane below 0", x.cell(0, 0, -1), 0);
        lost(x, "INDEX below 0", x.cell(0, -1, 0), 3);
        lost(x, "INDEX least", x.cell(0, Integer.MIN_VALUE, 0), 3);
        for (int lane = 0; lane < 3; lane++) {
            lost(x, "NULL in each lane", x.cell(3, -1, lane), 1);
        }
        DUE.is("cell(0, 0, 0)", x.cell(0, 0, 0), 127);
        DUE.is("fault()", x.fault(), 0);
    }

    private static void lost(SilkWord x, String why, long got, int fault) {
        DUE.is(why, got, LOST);
        DUE.is("fault() of " + why, x.fault(), fault);
    }

    private static SilkWord twoRows() {
        SilkWord x = new SilkWord();
        x.sheet(0, 1, 5);
        x.sheet(1, 1, 3);
        x.sheet(2, 0, 5);
        for (int i = 0; i < 5; i++) {
            x.put(0, i, 10 + i);
        }
        return x;
    }

    private static void copy() {
        SilkWord x = twoRows();
        DUE.is("copy(0, 3, 1, 1, 2)", x.copy(0, 3, 1, 1, 2), 2);
        DUE.row("the other one", i -> x.cell(1, i, 1), 0, 13, 14);
        DUE.row("the first one", i -> x.cell(0, i, 1), 10, 11, 12, 13, 14);
        DUE.is("copy(0, 0, 1, 0, 3)", x.copy(0, 0, 1, 0, 3), 3);
        DUE.row("the other one", i -> x.cell(1, i, 1), 10, 11, 12);
        DUE.is("copy(0, 5, 1, 3, 0)", x.copy(0, 5, 1, 3, 0), 0);
        DUE.is("fault()", x.fault(), 0);
        x.put(0, 0, 99);
        DUE.is("the other one is its own", x.cell(1, 0, 1), 10);
    }

    private static void copyOfItself() {
        SilkWord x = twoRows();
        DUE.is("copy(0, 0, 0, 1, 4)", x.copy(0, 0, 0, 1, 4), 4);
        DUE.row("up", i -> x.cell(0, i, 1), 10, 10, 11, 12, 13);
        SilkWord y = twoRows();
        DUE.is("copy(0, 2, 0, 0, 3)", y.copy(0, 2, 0, 0, 3), 3);
        DUE.row("down", i -> y.cell(0, i, 1), 12, 13, 14, 13, 14);
    }

    private static void copyOrderOfRefusals() {
        SilkWord x = twoRows();
        DUE.is("UNKNOWN, the first", x.copy(4, 0, 3, 0, -1), -1);
        DUE.is("UNKNOWN, the other", x.copy(3, 0, 4, 0, -1), -1);
        DUE.is("UNKNOWN, -1", x.copy(0, 0, -1, 0, 0), -1);
        DUE.is("UNKNOWN, -1", x.copy(-1, 0, 0, 0, 0), -1);
        DUE.is("fault()", x.fault(), 0);
        DUE.is("NULL, the first", x.copy(3, -1, 0, 0, -1), -11);
        DUE.is("NULL, the other", x.copy(0, -1, 3, 0, -1), -11);
        DUE.is("NULL, both", x.copy(3, 0, 3, 0, 0), -11);
        DUE.is("fault()", x.fault(), 1);
        DUE.is("CAST ahead of INDEX", x.copy(0, -1, 2, 0, -1), -12);
        DUE.is("CAST the other way", x.copy(2, 0, 0, 0, 0), -12);
        DUE.is("fault()", x.fault(), 2);
    }

    private static void copyIndex() {
        SilkWord x = twoRows();
        int max = Integer.MAX_VALUE;
        DUE.is("i below 0", x.copy(0, -1, 1, 0, 0), -13);
        DUE.is("fault()", x.fault(), 3);
        DUE.is("j below 0", x.copy(0, 0, 1, -1, 0), -13);
        DUE.is("n below 0", x.copy(0, 1, 1, 1, -1), -13);
        DUE.is("i beyond", x.copy(0, 6, 1, 0, 0), -13);
        DUE.is("j beyond", x.copy(0, 0, 1, 4, 0), -13);
        DUE.is("n beyond the first", x.copy(1, 1, 0, 0, 3), -13);
        DUE.is("n beyond the other", x.copy(0, 0, 1, 1, 3), -13);
        DUE.is("i and n wrap", x.copy(0, 1, 1, 0, max), -13);
        DUE.is("j and n wrap", x.copy(0, 0, 1, 1, max), -13);
        DUE.is("i greatest", x.copy(0, max, 1, 0, 1), -13);
        DUE.is("all least", x.copy(0, Integer.MIN_VALUE, 1, Integer.MIN_VALUE, Integer.MIN_VALUE), -13);
        DUE.row("nothing has changed", i -> x.cell(1, i, 1), 0, 0, 0);
    }

    private static void tell() {
        SilkWord s = Due.streetOf("n;s30;c40;t50");
        DUE.is("tell of a subject", s.tell(0), 3);
        DUE.is("trace()", s.trace(), 1);
        SilkWord c = Due.streetOf("n;s30;c40;t50");
        DUE.is("tell of a courtier", c.tell(1), 104);
        DUE.is("trace()", c.trace(), 2 * 31 + 1);
        SilkWord t = Due.streetOf("n;s30;c40;t50");
        DUE.is("tell of a tailor", t.tell(2), 110);
        DUE.is("trace()", t.trace(), ((3 * 31 + 2) * 31 + 1) * 31 + 1);
        int left = t.trace();
        DUE.is("tell(3)", t.tell(3), -1);
        DUE.is("tell(-1)", t.tell(-1), -1);
        DUE.is("trace() of a refusal", t.trace(), left);
    }

    private static void bow() {
        SilkWord x = Due.streetOf("n;t30;s40;c50;t11;c00");
        DUE.is("bow to a subject", x.bow(1), 1);
        DUE.is("trace()", x.trace(), 4);
        DUE.is("bow to a tailor", x.bow(0), 90);
        DUE.is("trace()", x.trace(), 4 * 31 + 5);
        DUE.is("bow to a courtier", x.bow(4), 4);
        DUE.is("trace()", x.trace(), (4 * 31 + 5) * 31 + 4);
        DUE.is("bow to another tailor", x.bow(3), 90);
        int left = x.trace();
        DUE.is("bow(5)", x.bow(5), -1);
        DUE.is("bow(-1)", x.bow(-1), -1);
        DUE.is("trace() of a refusal", x.trace(), left);
    }

    private static void as() {
        SilkWord x = Due.streetOf("n;s30;c40;t50");
        DUE.row("a subject as", kind -> x.as(0, kind), 1, -12, -12, -2);
        DUE.row("a courtier as", kind -> x.as(1, kind), 1, 1, -12, -2);
        DUE.row("a tailor as", kind -> x.as(2, kind), 1, 1, 1, -2);
        x.as(0, 1);
        DUE.is("fault()", x.fault(), 2);
        DUE.is("as(0, -1)", x.as(0, -1), -2);
        DUE.is("fault()", x.fault(), 0);
        x.as(0, 1);
        DUE.is("as(3, 3)", x.as(3, 3), -1);
        DUE.is("fault()", x.fault(), 0);
        x.as(0, 1);
        DUE.is("as(-1, 0)", x.as(-1, 0), -1);
        DUE.is("as(2, 2)", x.as(2, 2), 1);
        DUE.is("fault()", x.fault(), 0);
        DUE.is("trace()", x.trace(), 0);
    }

    private static void traceWraps() {
        SilkWord x = Due.streetOf("n;s30;c40;t50");
        int want = 0;
        for (int turn = 0; turn < 20; turn++) {
            x.bow(turn % 3);
            want = want * 31 + (turn % 3 == 2 ? 5 : 4);
            DUE.is("trace() behind " + turn, x.trace(), want);
        }
        Due.take(x, "n;s11;s11");
        DUE.is("trace() in a new street", x.trace(), want);
    }

    /** Every call that names faults, and is refused or comes to none, behind a fault. */
    private static void faultOfTheLatestCallThatNamesOne() {
        SilkWord x = Due.streetOf("n;s10;c00");
        DUE.row("calls without faults leave it", k -> faultBehind(x, k), 3, 3, 3, 3, 3, 3, 3, 3, 3, 3, 3, 3, 3, 3);
        DUE.row("calls with faults tell none", k -> faultBehind(x, 100 + k), 0, 0, 0, 0, 0, 0, 0, 0, 0, 0, 0, 0, 0, 0);
    }

    private static int faultBehind(SilkWord x, int call) {
        x.put(3, 99, 0);
        switch (call) {
            case 0: x.lose(7); break;
            case 1: x.lose(0); break;
            case 2: x.tell(9); x.tell(0); break;
            case 3: x.bow(9); x.bow(1); break;
            case 4: x.odds(0, 0, 9); x.odds(0, 0, 0); break;
            case 5: x.many(9); x.many(0); x.trace(); x.fault(); break;
            case 6: x.ofPerson(9, 0); x.ofPerson(0, 0); break;
            case 7: x.word(9, 0); x.word(0, 0); x.unsay(9); x.unsay(1); break;
            case 8: x.bribe(9, true); x.bribe(0, false); break;
            case 9: x.whisper(0, 0); x.whisper(0, 1); x.forget(9); x.forget(1); break;
            case 10: x.says(9); x.says(0); x.crowd(0); x.heard(0, 0, 0); x.silence(); x.noticed(); break;
            case 11: x.fewest(); x.bribes(0); x.whispers(0); x.worth(9); break;
            case 12: x.reading(9, 0, true); x.reading(0, 0, true); x.back(9); x.back(1); break;
            case 13: x.where(0); x.paid(); break;
            case 100: x.sheet(0, 0, 9); break;
            case 101: x.sheet(0, 0, 99); break;
            case 102: x.put(0, 0, 1); break;
            case 103: x.put(4, 0, 1); break;
            case 104: x.cell(0, 0, 0); break;
            case 105: x.cell(0, 0, 5); break;
            case 106: x.copy(0, 0, 0, 0, 1); break;
            case 107: x.copy(0, 0, 5, 0, 1); break;
            case 108: x.as(0, 0); break;
            case 109: x.as(0, 5); break;
            case 110: x.asked(0, 0, 0, 1); break;
            case 111: x.asked(0, 0, 0, 2); break;
            case 112: x.street(0, 0, 0, 1); break;
            default: x.street(3, 0, 0, 9); break;
        }
        return x.fault();
    }

    private static void many() {
        SilkWord x = Due.streetOf("n;s10;c00;t00");
        DUE.row("many", x::many, 3, 0, 0, 0, -2);
        DUE.is("many(-1)", x.many(-1), -2);
        DUE.is("many(4) without a street", new SilkWord().many(4), -2);
        x.word(0, 0);
        x.whisper(0, 1);
        x.whisper(0, 2);
        x.reading(0, 0, true);
        x.reading(0, 1, true);
        x.reading(0, 2, true);
        DUE.row("many", x::many, 3, 1, 2, 3, -2);
    }
}
