/** Promises 24 to 34, sentence by sentence, each at its edges: sheets, parts. */
public final class Promises24To34Test {
    private static final Due DUE = new Due("Promises24To34Test");
    private static final Sentences DOC = new Sentences(DUE);
    private static final int MIN = Given.MIN, MAX = Given.MAX;
    private static final long LOST = SilkWord.LOST;

    public static void main(String[] args) {
        sheet();
        lose();
        put();
        cell();
        cellLoses();
        copy();
        copyRefuses();
        tell();
        bow();
        as();
        trace();
        fault();
        many();
        DOC.end();
    }

    private static void sheet() {
        DOC.promise(24, "sheet");
        DOC.says("A SHEET gets a new row: 1", () -> {
            SilkWord x = new SilkWord();
            DUE.all("the first and the last, of none and of 60", 1, x.sheet(0, 0, 0), x.sheet(3, 2, 60), x.sheet(3, 1, 60));
            DUE.is("cell 59", x.cell(3, 59, 1), 0);
            x.put(3, 59, 5);
            DUE.is("one again", x.sheet(3, 1, 60), 1);
            DUE.is("cell 59 is new", x.cell(3, 59, 1), 0);
            x.put(3, 1, 5);
            x.sheet(3, 1, 1);
            x.sheet(3, 1, 2);
            DUE.is("cell 1 is new behind a shorter row", x.cell(3, 1, 1), 0);
        });
        DOC.says("UNKNOWN", () -> {
            SilkWord x = new SilkWord();
            DUE.all("no SHEET", -1, x.sheet(-1, 0, 1), x.sheet(4, 0, 1), x.sheet(MIN, 3, 61), x.sheet(MAX, 0, -1));
            DUE.is("fault", x.fault(), 0);
        });
        DOC.says("OUTSIDE: lane", () -> {
            SilkWord x = new SilkWord();
            DUE.all("no LANE", -2, x.sheet(0, -1, 1), x.sheet(0, 3, 1), x.sheet(0, MIN, 61), x.sheet(0, MAX, -1));
            DUE.is("nothing still", x.lose(0), 0);
        });
        DOC.says("n above 60", () -> {
            SilkWord x = new SilkWord();
            DUE.all("too many", -2, x.sheet(0, 0, 61), x.sheet(0, 2, MAX));
            DUE.is("nothing still", x.lose(0), 0);
            DUE.is("fault", x.fault(), 0);
        });
        DOC.says("SIZE", () -> {
            SilkWord x = Given.rows();
            DUE.all("n below 0", -14, x.sheet(0, 0, -1), x.sheet(0, 0, MIN), x.sheet(3, 2, -60));
            DUE.is("fault", x.fault(), 4);
            DUE.is("the row is as it was", x.cell(0, 3, 0), 3);
            DUE.is("nothing still", x.lose(3), 0);
        });
    }

    private static void lose() {
        DOC.promise(25, "lose");
        DOC.says("A SHEET has nothing: 1", () -> {
            SilkWord x = Given.rows();
            DUE.row("lose", x::lose, 1, 1, 1, 0, -1);
            DUE.row("put", k -> x.put(k, 0, 0), -11, -11, -11, -11, -1);
            x.sheet(3, 0, 0);
            DUE.is("a row of none is something", x.lose(3), 1);
        });
        DOC.says("0: it had nothing", () -> {
            SilkWord x = Given.rows();
            DUE.all("at first, again", 0, x.lose(3), x.lose(3));
            x.lose(0);
            DUE.is("lost already", x.lose(0), 0);
            x.sheet(0, 0, -1);
            DUE.is("a row that was not made", x.lose(0), 0);
        });
        DOC.says("UNKNOWN", () -> {
            SilkWord x = Given.rows();
            DUE.all("no SHEET", -1, x.lose(-1), x.lose(4), x.lose(MIN), x.lose(MAX));
        });
    }

    private static void put() {
        DOC.promise(26, "put");
        DOC.says("Cell i of a SHEET becomes v: 1", () -> {
            SilkWord x = Given.rows();
            DUE.all("the first and the last cell", 1, x.put(2, 0, MIN), x.put(2, 3, MAX));
            DUE.row("cells", i -> x.cell(2, i, 2), MIN, 41, 42, MAX);
            DUE.row("another one's", i -> x.cell(1, i, 1), 20, 21, 22, 23);
            DUE.is("cut", x.put(0, 0, 384), 1);
            DUE.is("cell", x.cell(0, 0, 0), -128);
        });
        DOC.says("UNKNOWN", () -> {
            SilkWord x = Given.rows();
            DUE.all("no SHEET", -1, x.put(-1, 0, 0), x.put(4, 0, 0), x.put(MIN, -1, 0), x.put(MAX, 99, 0));
            DUE.is("fault", x.fault(), 0);
        });
        DOC.says("NULL", () -> {
            SilkWord x = Given.rows();
            DUE.all("nothing, ahead of INDEX", -11, x.put(3, 0, 0), x.put(3, -1, 0), x.put(3, 60, 0));
            DUE.is("fault", x.fault(), 1);
        });
        DOC.says("INDEX", () -> {
            SilkWord x = Given.rows();
            DUE.all("no cell", -13, x.put(0, -1, 9), x.put(0, 4, 9), x.put(0, MIN, 9), x.put(0, MAX, 9));
            DUE.is("fault", x.fault(), 3);
            DUE.row("cells", i -> x.cell(0, i, 0), 0, 1, 2, 3);
            x.sheet(0, 0, 0);
            DUE.is("a row of none", x.put(0, 0, 9), -13);
            x.sheet(0, 0, 60);
            x.sheet(0, 0, 1);
            DUE.is("a cell of the row that was", x.put(0, 1, 9), -13);
        });
    }

    private static void cell() {
        DOC.promise(27, "cell");
        DOC.says("Cell i of what a SHEET has, taken as a row of a LANE", () -> {
            SilkWord x = Given.rows();
            DUE.row("bytes", i -> x.cell(0, i, 0), 0, 1, 2, 3, LOST);
            DUE.row("shorts", i -> x.cell(1, i, 1), 20, 21, 22, 23, LOST);
            DUE.row("ints", i -> x.cell(2, i, 2), 40, 41, 42, 43, LOST);
            x.put(2, 3, -1);
            DUE.is("below 0", x.cell(2, 3, 2), -1);
            DUE.is("fault", x.fault(), 0);
        });
    }

    private static void lost(int k, int i, int lane, int fault) {
        SilkWord x = Given.rows();
        DUE.is("a fault ahead that no cell has", x.sheet(0, 0, -1), -14);
        DUE.is("cell(" + k + ", " + i + ", " + lane + ")", x.cell(k, i, lane), LOST);
        DUE.is("fault", x.fault(), fault);
    }

    private static void cellLoses() {
        DOC.says("LOST: UNKNOWN", () -> {
            lost(-1, 0, 0, 0);
            lost(4, 0, 0, 0);
            lost(MIN, -1, 3, 0);
            lost(MAX, 0, 0, 0);
        });
        DOC.says("OUTSIDE: lane", () -> {
            lost(0, 0, -1, 0);
            lost(0, 0, 3, 0);
            lost(3, -1, MIN, 0);
            lost(0, 99, MAX, 0);
        });
        DOC.says("FAULTS CAST", () -> {
            lost(0, 0, 1, 2);
            lost(0, -1, 2, 2);
            lost(1, 99, 0, 2);
            lost(1, 0, 2, 2);
            lost(2, 0, 0, 2);
            lost(2, 0, 1, 2);
        });
        DOC.says("(nothing is no CAST)", () -> {
            lost(3, 0, 0, 1);
            lost(3, 0, 1, 1);
            lost(3, 0, 2, 1);
        });
        DOC.says("NULL", () -> {
            lost(3, -1, 0, 1);
            lost(3, MAX, 1, 1);
        });
        DOC.says("INDEX", () -> {
            lost(0, -1, 0, 3);
            lost(0, 4, 0, 3);
            lost(1, MIN, 1, 3);
            lost(2, MAX, 2, 3);
            SilkWord x = new SilkWord();
            x.sheet(0, 0, 0);
            DUE.is("a row of none", x.cell(0, 0, 0), LOST);
            DUE.is("fault", x.fault(), 3);
        });
    }

    /** Sheet 0 has 10, 11, 12, 13, 14; sheet 1 three zeros, both shorts; sheet 2 five bytes; sheet 3 nothing. */
    private static SilkWord shorts() {
        SilkWord x = new SilkWord();
        x.sheet(0, 1, 5);
        x.sheet(1, 1, 3);
        x.sheet(2, 0, 5);
        for (int i = 0; i < 5; i++) {
            x.put(0, i, 10 + i);
        }
        return x;
    }

    private static void copy() {
        DOC.promise(28, "copy");
        DOC.says("n cells of a SHEET from i on go to another one", () -> {
            SilkWord x = shorts();
            DUE.is("the last two", x.copy(0, 3, 1, 0, 2), 2);
            DUE.row("the other", i -> x.cell(1, i, 1), 13, 14, 0, LOST);
            DUE.row("the first", i -> x.cell(0, i, 1), 10, 11, 12, 13, 14, LOST);
            DUE.is("as many as the other has", x.copy(0, 0, 1, 0, 3), 3);
            DUE.row("the other", i -> x.cell(1, i, 1), 10, 11, 12, LOST);
        });
        DOC.says("(perhaps the same)", () -> {
            SilkWord x = shorts();
            DUE.is("all to themselves", x.copy(0, 0, 0, 0, 5), 5);
            DUE.row("as ahead of it", i -> x.cell(0, i, 1), 10, 11, 12, 13, 14);
            DUE.is("one cell", x.copy(0, 0, 0, 4, 1), 1);
            DUE.row("the last one", i -> x.cell(0, i, 1), 10, 11, 12, 13, 10);
        });
        DOC.says("from j on, as they were: n", () -> {
            SilkWord up = shorts();
            DUE.is("up", up.copy(0, 0, 0, 1, 4), 4);
            DUE.row("as they were", i -> up.cell(0, i, 1), 10, 10, 11, 12, 13);
            SilkWord down = shorts();
            DUE.is("down", down.copy(0, 1, 0, 0, 4), 4);
            DUE.row("as they were", i -> down.cell(0, i, 1), 11, 12, 13, 14, 14);
            SilkWord x = shorts();
            DUE.all("none", 0, x.copy(0, 0, 1, 0, 0), x.copy(0, 5, 1, 3, 0), x.copy(0, 5, 0, 5, 0));
            DUE.row("the other is as it was", i -> x.cell(1, i, 1), 0, 0, 0);
            DUE.is("to the end", x.copy(0, 4, 1, 2, 1), 1);
            DUE.row("the other", i -> x.cell(1, i, 1), 0, 0, 14);
        });
    }

    private static void copyRefuses() {
        DOC.says("UNKNOWN", () -> {
            SilkWord x = shorts();
            DUE.all("no SHEET", -1, x.copy(-1, 0, 1, 0, 1), x.copy(4, 0, 1, 0, 1), x.copy(0, 0, -1, 0, 1), x.copy(0, 0, 4, 0, 1),
                    x.copy(MIN, -1, 3, -1, -1), x.copy(3, 0, MAX, 0, 0));
            DUE.is("fault", x.fault(), 0);
        });
        DOC.says("FAULTS NULL (the first, the other)", () -> {
            SilkWord x = shorts();
            DUE.all("nothing", -11, x.copy(3, 0, 0, 0, 1), x.copy(0, 0, 3, 0, 1), x.copy(3, 0, 3, 0, 0), x.copy(3, -1, 2, 9, -1),
                    x.copy(2, -1, 3, 9, -1));
            DUE.is("fault", x.fault(), 1);
        });
        DOC.says("CAST (unlike LANES)", () -> {
            SilkWord x = shorts();
            x.sheet(3, 2, 5);
            DUE.all("unlike", -12, x.copy(0, 0, 2, 0, 1), x.copy(2, 0, 0, 0, 1), x.copy(0, 0, 3, 0, 0), x.copy(3, -1, 0, 0, 0),
                    x.copy(2, 0, 3, 9, 0), x.copy(3, 0, 2, 0, -1));
            DUE.is("fault", x.fault(), 2);
        });
        DOC.says("INDEX: i", () -> {
            SilkWord x = shorts();
            DUE.all("below 0 or beyond", -13, x.copy(0, -1, 1, 0, 1), x.copy(0, 6, 1, 0, 0), x.copy(0, 5, 1, 0, 1), x.copy(0, MIN, 1, 0, 0),
                    x.copy(0, MAX, 1, 0, 1), x.copy(0, -1, 1, 0, 0));
            DUE.is("fault", x.fault(), 3);
        });
        DOC.says("j", () -> {
            SilkWord x = shorts();
            DUE.all("below 0 or beyond", -13, x.copy(0, 0, 1, -1, 1), x.copy(0, 0, 1, 4, 0), x.copy(0, 0, 1, 3, 1), x.copy(0, 0, 1, MIN, 0),
                    x.copy(0, 0, 1, MAX, 1), x.copy(0, 0, 1, -1, 0));
            DUE.is("fault", x.fault(), 3);
        });
        DOC.says("n below 0 or beyond", () -> {
            SilkWord x = shorts();
            DUE.all("a length", -13, x.copy(0, 0, 1, 0, -1), x.copy(0, 0, 1, 0, 4), x.copy(1, 0, 0, 0, 4), x.copy(0, 1, 0, 0, 5),
                    x.copy(0, 0, 1, 0, MIN), x.copy(0, 0, 1, 0, MAX), x.copy(0, 5, 0, 5, MAX));
            DUE.is("fault", x.fault(), 3);
            DUE.row("the other is as it was", i -> x.cell(1, i, 1), 0, 0, 0);
            DUE.row("the first, too", i -> x.cell(0, i, 1), 10, 11, 12, 13, 14);
        });
    }

    private static void tell() {
        DOC.promise(29, "tell");
        DOC.says("TELLING of a PERSON", () -> {
            SilkWord x = Due.streetOf("n;s50;c50;t50;s00;c00;t00");
            DUE.row("tell", x::tell, 5, 105, 110, 0, 100, 100, -1);
            x.bribe(0, true);
            DUE.is("of one that is BRIBED", x.tell(0), 5);
        });
        DOC.says("UNKNOWN", () -> {
            SilkWord x = Due.streetOf("n;s50;c50");
            DUE.all("no PERSON", -1, x.tell(-1), x.tell(2), x.tell(MIN), x.tell(MAX), new SilkWord().tell(0));
            DUE.is("nothing is left in TRACE", x.trace(), 0);
        });
    }

    private static void bow() {
        DOC.promise(30, "bow");
        DOC.says("How one BOWS to it", () -> {
            SilkWord x = Due.streetOf("n;s50;c50;t50;s00;c00;t00;s00");
            DUE.row("bow", x::bow, 0, 1, 90, 3, 4, 90, 6, -1);
        });
        DOC.says("UNKNOWN", () -> {
            SilkWord x = Due.streetOf("n;s50;c50");
            DUE.all("no PERSON", -1, x.bow(-1), x.bow(2), x.bow(MIN), x.bow(MAX), new SilkWord().bow(0));
            DUE.is("nothing is left in TRACE", x.trace(), 0);
        });
    }

    private static void as() {
        DOC.promise(31, "as");
        SilkWord x = Due.streetOf("n;s50;c50;t50");
        DOC.says("A PERSON, taken as one of a kind: 1", () -> {
            DUE.all("what it is", 1, x.as(0, 0), x.as(1, 0), x.as(1, 1), x.as(2, 0), x.as(2, 1), x.as(2, 2));
            DUE.is("fault", x.fault(), 0);
            DUE.is("it is of its kind still", x.ofPerson(2, 0), 2);
        });
        DOC.says("UNKNOWN", () -> {
            DUE.all("no PERSON", -1, x.as(-1, 0), x.as(3, 0), x.as(MIN, 3), x.as(MAX, -1), new SilkWord().as(0, 0));
            DUE.is("fault", x.fault(), 0);
        });
        DOC.says("OUTSIDE", () -> {
            DUE.all("no kind", -2, x.as(0, -1), x.as(0, 3), x.as(2, 3), x.as(2, MIN), x.as(2, MAX));
            DUE.is("fault", x.fault(), 0);
        });
        DOC.says("CAST: it is none", () -> {
            DUE.all("none", -12, x.as(0, 1), x.as(0, 2), x.as(1, 2));
            DUE.is("fault", x.fault(), 2);
        });
    }

    private static void trace() {
        DOC.promise(32, "trace");
        DOC.says("TRACE", () -> {
            SilkWord x = Due.streetOf("n;s50;c50;t50");
            DUE.is("at first", x.trace(), 0);
            x.bow(2);
            DUE.all("as often as it is asked", 5, x.trace(), x.trace());
            x.tell(0);
            DUE.is("31 times it, and 1", x.trace(), 156);
            x.as(2, 2);
            x.ofPerson(2, 3);
            DUE.is("other calls leave nothing", x.trace(), 156);
            for (int turn = 0; turn < 7; turn++) {
                x.bow(0);
            }
            DUE.is("it wraps", x.trace(), (int) wrapped());
        });
    }

    private static long wrapped() {
        long trace = 156;
        for (int turn = 0; turn < 7; turn++) {
            trace = trace * 31 + 4;
        }
        DUE.isTrue("more than an int holds", trace > MAX);
        return trace;
    }

    private static void fault() {
        DOC.promise(33, "fault");
        DOC.says("The FAULT of the latest call that names one", () -> {
            SilkWord x = Given.rows();
            x.put(3, 0, 0);
            x.sheet(0, 0, -1);
            DUE.is("the later one", x.fault(), 4);
            x.cell(0, 0, 1);
            DUE.is("of a call that answers a long", x.fault(), 2);
            x.silence();
            x.lose(3);
            x.odds(0, 0, 0);
            x.many(9);
            x.trace();
            DUE.is("calls that name none leave it", x.fault(), 2);
            x.put(0, 4, 0);
            DUE.all("as often as it is asked", 3, x.fault(), x.fault());
        });
        DOC.says("0: it came to none", () -> {
            DUE.is("street", faultBehind(x -> x.street(0, 0, 0, 4)), 0);
            DUE.is("asked", faultBehind(x -> x.asked(0, 0, 0, 1)), 0);
            DUE.is("sheet", faultBehind(x -> x.sheet(0, 0, 0)), 0);
            DUE.is("put", faultBehind(x -> x.put(0, 0, 0)), 0);
            DUE.is("cell", faultBehind(x -> x.cell(0, 0, 0)), 0);
            DUE.is("copy", faultBehind(x -> x.copy(0, 0, 0, 0, 0)), 0);
            DUE.is("as", faultBehind(x -> x.as(0, 0)), 0);
        });
        DOC.says("or was refused", () -> {
            DUE.is("street", faultBehind(x -> x.street(4, 0, 0, 4)), 0);
            DUE.is("asked", faultBehind(x -> x.asked(0, 3, 0, 1)), 0);
            DUE.is("asked, at last", faultBehind(x -> x.asked(2, 2, 0, 1)), 0);
            DUE.is("sheet", faultBehind(x -> x.sheet(0, 0, 61)), 0);
            DUE.is("put", faultBehind(x -> x.put(4, 0, 0)), 0);
            DUE.is("cell", faultBehind(x -> x.cell(0, 0, 3)), 0);
            DUE.is("copy", faultBehind(x -> x.copy(0, 0, 4, 0, 0)), 0);
            DUE.is("as", faultBehind(x -> x.as(4, 0)), 0);
        });
        DOC.says("(0 ahead of any)", () -> {
            DUE.is("a new object", new SilkWord().fault(), 0);
            SilkWord x = new SilkWord();
            x.silence();
            x.lose(0);
            DUE.is("behind calls that name none", x.fault(), 0);
        });
    }

    /** The fault behind a call in a busy street, where the latest fault was INDEX. */
    private static int faultBehind(Given.Call call) {
        SilkWord x = Given.busy();
        DUE.is("the fault ahead", x.fault(), 3);
        call.on(x);
        return x.fault();
    }

    private static void many() {
        DOC.promise(34, "many");
        SilkWord x = Given.full();
        DOC.says("How many: 0 PERSONS", () -> {
            DUE.is("four", x.many(0), 4);
            DUE.is("two", Due.streetOf("n;s00;s00").many(0), 2);
            DUE.is("seven", Due.streetOf(Given.SEVEN).many(0), 7);
        });
        DOC.says("1 WORDS", () -> {
            DUE.is("six", x.many(1), 6);
            x.unsay(6);
            DUE.is("none", x.many(1), 0);
        });
        DOC.says("2 WHISPERS", () -> {
            DUE.is("six", x.many(2), 6);
            x.forget(5);
            DUE.is("one", x.many(2), 1);
        });
        DOC.says("3 READINGS", () -> {
            DUE.is("eight", x.many(3), 8);
            x.back(1);
            DUE.is("seven", x.many(3), 7);
        });
        DOC.says("(0 all without a STREET)", () -> {
            SilkWord none = Given.rows();
            none.word(0, 0);
            none.whisper(0, 1);
            none.reading(0, 0, true);
            none.street(0, 0, 0, 4);
            DUE.row("many", none::many, 0, 0, 0, 0, -2);
        });
        DOC.says("OUTSIDE", () -> {
            DUE.all("no such what", -2, x.many(-1), x.many(4), x.many(MIN), x.many(MAX));
            DUE.all("no such what, no STREET", -2, new SilkWord().many(-1), new SilkWord().many(4));
        });
    }
}
