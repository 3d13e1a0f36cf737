/** What the document's Terms say, sentence by sentence, of every call that they are about. */
public final class TermsTest {
    private static final Due DUE = new Due("TermsTest");
    private static final Sentences DOC = new Sentences(DUE);
    private static final int MIN = Given.MIN, MAX = Given.MAX;
    private static final long LOST = SilkWord.LOST;

    public static void main(String[] args) {
        DOC.section("odds, as each is paid or not. ", "## The public face");
        DOC.says("An object is used for at most 512 calls after it has been made; what later calls answer is free",
                TermsTest::theLastCallsAnswer);
        DOC.section("## Terms ", "==== 1 ");
        refusals();
        faults();
        DOC.says("NONE is -9", TermsTest::none);
        DOC.says("Sets are told as bits (bit k for number k)", TermsTest::sets);
        DOC.says("Shares are told as upper and lower number (above 0) in least terms", TermsTest::shares);
        DOC.end();
    }

    private static void refusals() {
        DOC.says("REFUSALS: UNKNOWN (there is no such PERSON", TermsTest::noSuchPerson);
        DOC.says("WORD", TermsTest::noSuchWord);
        DOC.says("SHEET", TermsTest::noSuchSheet);
        DOC.says("place)", TermsTest::noSuchPlace);
        DOC.says("OUTSIDE (another number is not as told)", TermsTest::outside);
        DOC.says("STATE (as told)", TermsTest::state);
        DOC.says("FULL", TermsTest::full);
        DOC.says("of several the first in the order in which a call's line tells them", TermsTest::orderOfRefusals);
        DOC.says("They change nothing", TermsTest::refusalsChangeNothing);
        DOC.says("(but fault(), of a call that names FAULTS)", TermsTest::refusalsAndTheFault);
    }

    private static void faults() {
        DOC.says("FAULTS are the machine's: 1 NULL (there is nothing)", TermsTest::nothing);
        DOC.says("2 CAST (it is of another LANE, kind)", TermsTest::anotherLaneOrKind);
        DOC.says("3 INDEX (of cells from i on also where i is not 0 .. how many there are, if none of them is taken, too)",
                TermsTest::index);
        DOC.says("4 SIZE (a length below 0)", TermsTest::size);
        DOC.says("Of a call the first that is come to, in the order told", TermsTest::orderOfFaults);
        DOC.says("it answers -10 less it", TermsTest::answersOfFaults);
        DOC.says("(LOST, where a long is answered, as for refusals)", TermsTest::lost);
        DOC.says("and changes nothing", TermsTest::faultsChangeNothing);
        DOC.says("fault() tells it", TermsTest::faultTells);
    }

    private static void theLastCallsAnswer() {
        SilkWord x = Due.streetOf(Given.SEVEN);
        int calls = 1 + Given.SEVEN.length() + 1;
        for (int turn = 0; calls + 2 < 511; turn++) {
            DUE.is("word", x.word(turn % 7, turn % 40), 0);
            DUE.is("unsay", x.unsay(1), 0);
            calls += 2;
        }
        while (calls < 510) {
            DUE.is("bribe of one that is not", x.bribe(6, false), 0);
            calls++;
        }
        DUE.is("the 511th call", x.word(6, 39), 0);
        DUE.is("the 512th call", x.says(6), 39);
    }

    // ---- refusals

    private static void noSuchPerson() {
        SilkWord x = Given.busy();
        for (int p : new int[] {-1, 4, 7, MIN, MAX}) {
            DUE.all("no PERSON " + p, -1, x.ofPerson(p, 0), x.bribe(p, true), x.bribe(p, false), x.whisper(p, 0),
                    x.whisper(0, p), x.says(p), x.heard(p, 0, 0), x.bribes(p), x.reading(p, 0, true), x.tell(p),
                    x.bow(p), x.as(p, 0));
            DUE.is("odds of no PERSON " + p, x.odds(p, 0, 0), LOST);
        }
        SilkWord none = Given.rows();
        DUE.all("no PERSON without a STREET", -1, none.ofPerson(0, 0), none.bribe(0, true), none.whisper(0, 1),
                none.says(0), none.heard(0, 0, 0), none.bribes(0), none.reading(0, 0, true), none.tell(0),
                none.bow(0), none.as(0, 0));
        DUE.is("odds without a STREET", none.odds(0, 0, 0), LOST);
    }

    private static void noSuchWord() {
        SilkWord x = Given.busy();
        DUE.all("no WORD", -1, x.worth(-1), x.worth(2), x.worth(6), x.worth(MIN), x.worth(MAX));
        DUE.is("the last WORD", x.worth(1) / 100, 1);
        DUE.is("no WORD without a STREET", Given.rows().worth(0), -1);
    }

    private static void noSuchSheet() {
        SilkWord x = Given.busy();
        for (int k : new int[] {-1, 4, MIN, MAX}) {
            DUE.all("no SHEET " + k, -1, x.street(k, 0, 0, 0), x.asked(k, 0, 0, 0), x.sheet(k, 0, 0), x.lose(k),
                    x.put(k, 0, 0), x.copy(k, 0, 0, 0, 0), x.copy(0, 0, k, 0, 0));
            DUE.is("cell of no SHEET " + k, x.cell(k, 0, 0), LOST);
        }
    }

    private static void noSuchPlace() {
        SilkWord x = Given.busy();
        DUE.all("no place", -1, x.word(-1, 0), x.word(4, 0), x.word(MIN, 0), x.word(MAX, 0));
        DUE.is("the last place", x.word(3, 0), 2);
        DUE.is("no place without a STREET", Given.rows().word(0, 0), -1);
    }

    private static void outside() {
        SilkWord x = Given.busy();
        DUE.all("what of a PERSON", -2, x.ofPerson(0, -1), x.ofPerson(0, 5), x.ofPerson(0, MIN), x.ofPerson(0, MAX));
        for (int day : new int[] {-1, 40, MIN, MAX}) {
            DUE.all("DAY " + day, -2, x.word(0, day), x.crowd(day), x.heard(0, day, 0), x.reading(0, day, true),
                    x.where(day));
            DUE.is("odds of DAY " + day, x.odds(0, day, 0), LOST);
        }
        for (int what : new int[] {-1, 2, MIN, MAX}) {
            DUE.all("what " + what, -2, x.heard(0, 0, what), x.whispers(what));
            DUE.is("which " + what, x.odds(0, 0, what), LOST);
        }
        for (int lane : new int[] {-1, 3, MIN, MAX}) {
            DUE.all("LANE " + lane, -2, x.street(0, lane, 0, 0), x.asked(0, lane, 0, 0), x.sheet(0, lane, 0));
            DUE.is("cell of LANE " + lane, x.cell(0, 0, lane), LOST);
            DUE.is("kind " + lane, x.as(0, lane), -2);
        }
        DUE.all("more than there are, or below 0", -2, x.unsay(3), x.unsay(-1), x.unsay(MAX), x.unsay(MIN), x.forget(2),
                x.forget(-1), x.forget(MAX), x.forget(MIN), x.back(4), x.back(-1), x.back(MAX), x.back(MIN));
        DUE.all("how many of what", -2, x.many(-1), x.many(4), x.many(MIN), x.many(MAX));
        DUE.all("how many cells", -2, x.sheet(0, 0, 61), x.sheet(0, 0, MAX));
    }

    private static void state() {
        SilkWord none = Given.rows();
        DUE.all("no STREET", -3, none.crowd(0), none.silence(), none.noticed(), none.fewest(), none.whispers(0),
                none.whispers(1), none.asked(0, 0, 0, 0), none.where(0), none.paid());
        none.street(0, 0, 0, 4);
        DUE.all("no STREET by a faulty TEXT", -3, none.crowd(39), none.silence(), none.where(39));
        SilkWord x = Given.busy();
        DUE.isTrue("a STREET", x.crowd(0) >= 0 && x.silence() >= 0 && x.noticed() >= -9 && x.where(0) >= 0);
    }

    private static void full() {
        SilkWord x = Given.full();
        DUE.all("FULL", -4, x.word(0, 0), x.whisper(0, 1), x.reading(0, 0, true));
        DUE.row("many", x::many, 4, 6, 6, 8);
        x.unsay(1);
        x.forget(1);
        x.back(1);
        DUE.is("a WORD where one is unsaid", x.word(0, 0), 5);
        DUE.is("a WHISPER where one is forgotten", x.whisper(0, 1), 5);
        DUE.is("a READING where one is taken back", x.reading(0, 0, true), 7);
    }

    private static void orderOfRefusals() {
        SilkWord x = Given.full();
        DUE.is("ofPerson: UNKNOWN, OUTSIDE", x.ofPerson(4, 5), -1);
        DUE.is("word: UNKNOWN, OUTSIDE, FULL", x.word(4, 40), -1);
        DUE.is("word: UNKNOWN, FULL", x.word(4, 0), -1);
        DUE.is("word: OUTSIDE, FULL", x.word(0, 40), -2);
        DUE.is("whisper: UNKNOWN, FULL", x.whisper(0, 4), -1);
        DUE.is("whisper: they are one, FULL", x.whisper(1, 1), -1);
        DUE.all("heard: UNKNOWN, OUTSIDE", -1, x.heard(4, 40, 0), x.heard(4, 0, 2), x.heard(-1, 40, 2));
        DUE.is("reading: UNKNOWN, OUTSIDE, FULL", x.reading(4, 40, true), -1);
        DUE.is("reading: UNKNOWN, FULL", x.reading(4, 0, true), -1);
        DUE.is("reading: OUTSIDE, FULL", x.reading(0, 40, true), -2);
        DUE.is("asked: UNKNOWN SHEET, OUTSIDE lane", x.asked(4, 3, 0, 0), -1);
        DUE.is("sheet: UNKNOWN, OUTSIDE", x.sheet(4, 3, 61), -1);
        DUE.is("as: UNKNOWN, OUTSIDE", x.as(4, 3), -1);
        DUE.is("street: UNKNOWN, OUTSIDE", x.street(4, 3, 0, 0), -1);
        SilkWord none = Given.rows();
        DUE.all("OUTSIDE, STATE", -2, none.crowd(40), none.whispers(2), none.where(40), none.asked(0, 3, 0, 0));
        DUE.is("asked: UNKNOWN SHEET, STATE", none.asked(4, 0, 0, 0), -1);
        DUE.is("ofPerson without a STREET: UNKNOWN, OUTSIDE", none.ofPerson(0, 5), -1);
        DUE.is("word without a STREET: UNKNOWN, OUTSIDE", none.word(0, 40), -1);
        DUE.is("heard without a STREET: UNKNOWN, OUTSIDE", none.heard(0, 40, 2), -1);
    }

    /** Calls without FAULTS that are refused in a full street. */
    private static final Given.Call[] REFUSED = {
        x -> x.ofPerson(4, 0), x -> x.ofPerson(0, 5), x -> x.word(4, 0), x -> x.word(0, 40), x -> x.word(0, 0),
        x -> x.unsay(7), x -> x.unsay(-1), x -> x.bribe(4, true), x -> x.bribe(-1, false), x -> x.whisper(0, 4),
        x -> x.whisper(2, 2), x -> x.whisper(2, 0), x -> x.forget(7), x -> x.forget(-1), x -> x.says(4),
        x -> x.crowd(40), x -> x.heard(4, 0, 0), x -> x.heard(0, 40, 0), x -> x.heard(0, 0, 2), x -> x.bribes(4),
        x -> x.whispers(2), x -> x.worth(6), x -> x.reading(4, 0, true), x -> x.reading(0, 40, true),
        x -> x.reading(0, 0, true), x -> x.back(9), x -> x.back(-1), x -> x.where(40), x -> x.odds(4, 0, 0),
        x -> x.odds(0, 40, 0), x -> x.odds(0, 0, 2), x -> x.lose(4), x -> x.tell(4), x -> x.bow(4), x -> x.many(4)};

    /** Calls with FAULTS that are refused in a full street. */
    private static final Given.Call[] REFUSED_BESIDE_FAULTS = {
        x -> x.street(4, 0, 0, 0), x -> x.street(0, 3, 0, 0), x -> x.asked(4, 0, 0, 0), x -> x.asked(0, 3, 0, 0),
        x -> x.asked(1, 1, 0, 1), x -> x.sheet(4, 0, 0), x -> x.sheet(0, 3, 0), x -> x.sheet(0, 0, 61),
        x -> x.put(4, 0, 0), x -> x.cell(4, 0, 0), x -> x.cell(0, 0, 3), x -> x.copy(4, 0, 0, 0, 0),
        x -> x.copy(0, 0, 4, 0, 0), x -> x.as(4, 0), x -> x.as(0, 3)};

    private static final Given.Call[] WITHOUT_A_STREET = {
        x -> x.ofPerson(0, 0), x -> x.word(0, 0), x -> x.unsay(1), x -> x.bribe(0, true), x -> x.whisper(0, 1),
        x -> x.forget(1), x -> x.says(0), x -> x.crowd(0), x -> x.heard(0, 0, 0), x -> x.silence(), x -> x.noticed(),
        x -> x.fewest(), x -> x.bribes(0), x -> x.whispers(0), x -> x.worth(0), x -> x.asked(0, 0, 0, 0),
        x -> x.reading(0, 0, true), x -> x.back(1), x -> x.where(0), x -> x.paid(), x -> x.odds(0, 0, 0),
        x -> x.tell(0), x -> x.bow(0), x -> x.as(0, 0)};

    private static boolean isRefusal(long answer) {
        return answer == LOST || answer >= -4 && answer <= -1;
    }

    private static void refusalsChangeNothing() {
        changesNothing("refused", REFUSED, Given::full);
        changesNothing("refused beside faults", REFUSED_BESIDE_FAULTS, Given::full);
        changesNothing("refused without a STREET", WITHOUT_A_STREET, Given::rows);
        SilkWord x = Given.full();
        x.sheet(0, 0, 21);
        DUE.is("asked of 21", x.asked(0, 0, 0, 21), -2);
        DUE.is("many cells still", x.put(0, 20, 1), 1);
    }

    private static void changesNothing(String which, Given.Call[] calls, java.util.function.Supplier<SilkWord> made) {
        for (int k = 0; k < calls.length; k++) {
            SilkWord x = made.get();
            DUE.isTrue(which + " " + k + " is a refusal", isRefusal(calls[k].on(x)));
            DUE.isTrue(which + " " + k + " changes nothing", Given.shown(x).equals(Given.shown(made.get())));
        }
    }

    private static void refusalsAndTheFault() {
        for (int k = 0; k < REFUSED.length; k++) {
            SilkWord x = Given.full();
            REFUSED[k].on(x);
            DUE.is("fault() behind refused " + k, x.fault(), 3);
        }
        for (int k = 0; k < REFUSED_BESIDE_FAULTS.length; k++) {
            SilkWord x = Given.full();
            REFUSED_BESIDE_FAULTS[k].on(x);
            DUE.is("fault() behind refused beside faults " + k, x.fault(), 0);
        }
        SilkWord none = Given.rows();
        none.put(3, 0, 0);
        DUE.is("asked without a STREET", none.asked(0, 0, 0, 0), -3);
        DUE.is("fault() behind it", none.fault(), 0);
        none.put(3, 0, 0);
        DUE.is("as without a STREET", none.as(0, 0), -1);
        DUE.is("fault() behind it", none.fault(), 0);
        none.put(3, 0, 0);
        DUE.is("silence without a STREET", none.silence(), -3);
        DUE.is("fault() behind it", none.fault(), 1);
    }

    // ---- faults: in a busy street, sheet 3 has nothing, sheets 0 .. 2 have 4 cells of their lane

    private static final Given.Call[] NULLS = {
        x -> x.street(3, 0, 0, 9), x -> x.street(3, 2, 0, 0), x -> x.asked(3, 0, 0, 1), x -> x.asked(3, 1, 0, 0),
        x -> x.put(3, 0, 0), x -> x.copy(3, 0, 0, 0, 1), x -> x.copy(0, 0, 3, 0, 1), x -> x.copy(3, 0, 3, 0, 0)};

    private static final Given.Call[] CASTS = {
        x -> x.street(0, 1, 0, 4), x -> x.street(0, 2, 0, 4), x -> x.street(1, 0, 0, 4), x -> x.street(1, 2, 0, 4),
        x -> x.street(2, 0, 0, 4), x -> x.street(2, 1, 0, 4), x -> x.asked(0, 1, 0, 1), x -> x.asked(0, 2, 0, 1),
        x -> x.asked(1, 0, 0, 1), x -> x.asked(2, 1, 0, 0), x -> x.copy(0, 0, 1, 0, 1), x -> x.copy(1, 0, 2, 0, 1),
        x -> x.copy(2, 0, 0, 0, 0), x -> x.as(0, 1), x -> x.as(0, 2), x -> x.as(1, 2), x -> x.as(3, 1)};

    private static final Given.Call[] INDICES = {
        x -> x.street(0, 0, 0, 5), x -> x.street(0, 0, 4, 1), x -> x.street(0, 0, 5, 0), x -> x.street(0, 0, -1, 0),
        x -> x.street(0, 0, -1, 1), x -> x.street(0, 0, MIN, 0), x -> x.street(0, 0, MAX, 0), x -> x.street(0, 0, 0, MAX),
        x -> x.street(0, 0, 4, MAX), x -> x.street(0, 0, MAX, MAX), x -> x.asked(1, 1, 0, 5), x -> x.asked(1, 1, 4, 1),
        x -> x.asked(1, 1, 5, 0), x -> x.asked(1, 1, -1, 0), x -> x.asked(1, 1, MIN, 1), x -> x.asked(1, 1, MAX, MAX),
        x -> x.put(2, 4, 0), x -> x.put(2, -1, 0), x -> x.put(2, MIN, 0), x -> x.put(2, MAX, 0),
        x -> x.copy(0, 5, 0, 0, 0), x -> x.copy(0, 0, 0, 5, 0), x -> x.copy(0, -1, 0, 0, 0), x -> x.copy(0, 0, 0, -1, 0),
        x -> x.copy(0, 0, 0, 0, -1), x -> x.copy(0, 0, 0, 0, 5), x -> x.copy(0, 1, 0, 0, 4), x -> x.copy(0, 0, 0, 1, 4),
        x -> x.copy(0, 4, 0, 0, MIN), x -> x.copy(0, MAX, 0, MAX, MAX), x -> x.copy(0, 1, 0, 1, MAX)};

    private static final Given.Call[] SIZES = {
        x -> x.street(0, 0, 0, -1), x -> x.street(0, 0, 0, MIN), x -> x.asked(0, 0, 0, -1), x -> x.asked(0, 0, 4, MIN),
        x -> x.sheet(0, 0, -1), x -> x.sheet(3, 2, MIN)};

    private static void come(Given.Call[] calls, int fault) {
        for (int k = 0; k < calls.length; k++) {
            SilkWord x = Given.busy();
            DUE.is("call " + k, calls[k].on(x), -10 - fault);
            DUE.is("fault() behind call " + k, x.fault(), fault);
        }
    }

    private static void comeToInCell(int k, int i, int lane, int fault) {
        SilkWord x = Given.busy();
        x.trace();
        DUE.is("cell(" + k + ", " + i + ", " + lane + ")", x.cell(k, i, lane), LOST);
        DUE.is("fault() behind it", x.fault(), fault);
    }

    private static void nothing() {
        come(NULLS, 1);
        comeToInCell(3, 0, 0, 1);
        comeToInCell(3, 0, 1, 1);
        comeToInCell(3, 0, 2, 1);
        SilkWord x = Given.busy();
        x.lose(0);
        DUE.is("put where a row was lost", x.put(0, 0, 0), -11);
        x.sheet(0, 0, 0);
        DUE.is("a row of none is not nothing", x.put(0, 0, 0), -13);
    }

    private static void anotherLaneOrKind() {
        come(CASTS, 2);
        comeToInCell(0, 0, 1, 2);
        comeToInCell(1, 0, 2, 2);
        comeToInCell(2, 0, 0, 2);
        SilkWord x = Given.busy();
        DUE.all("as what it is", 1, x.as(0, 0), x.as(1, 0), x.as(1, 1), x.as(2, 0), x.as(2, 1), x.as(2, 2));
    }

    private static void index() {
        come(INDICES, 3);
        comeToInCell(0, 4, 0, 3);
        comeToInCell(0, -1, 0, 3);
        comeToInCell(2, MIN, 2, 3);
        comeToInCell(2, MAX, 2, 3);
        SilkWord x = Given.busy();
        DUE.is("street of no cells at the end", x.street(0, 0, 4, 0), -100);
        DUE.is("street of no cells at the beginning", x.street(0, 0, 0, 0), -100);
        DUE.is("asked of no cells at the end", x.asked(0, 0, 4, 0), 0);
        DUE.is("copy of no cells at the ends", x.copy(0, 4, 0, 4, 0), 0);
        DUE.is("fault()", x.fault(), 0);
    }

    private static void size() {
        come(SIZES, 4);
        SilkWord x = Given.busy();
        DUE.is("a length of 0", x.sheet(0, 0, 0), 1);
        DUE.is("fault()", x.fault(), 0);
    }

    private static void orderOfFaults() {
        SilkWord x = Given.busy();
        DUE.is("street: NULL, SIZE", x.street(3, 0, -1, -1), -11);
        DUE.is("street: CAST, SIZE, INDEX", x.street(0, 1, -1, -1), -12);
        DUE.is("street: CAST, INDEX", x.street(0, 1, 5, 0), -12);
        DUE.is("street: SIZE, INDEX", x.street(0, 0, -1, -1), -14);
        DUE.is("street: INDEX ahead of the FIRST FAULT", x.street(0, 0, 1, 4), -13);
        DUE.is("asked: NULL, SIZE", x.asked(3, 0, -1, -1), -11);
        DUE.is("asked: CAST, SIZE, INDEX", x.asked(0, 1, -1, -1), -12);
        DUE.is("asked: SIZE, INDEX", x.asked(0, 0, -1, -1), -14);
        DUE.is("asked: INDEX ahead of n above 20", x.asked(0, 0, 0, 21), -13);
        DUE.is("asked: INDEX ahead of a PERSON twice", x.asked(0, 0, 0, 5), -13);
        DUE.is("put: NULL, INDEX", x.put(3, -1, 0), -11);
        DUE.is("copy: NULL of the other, CAST, INDEX", x.copy(0, -1, 3, -1, -1), -11);
        DUE.is("copy: NULL of the first, INDEX", x.copy(3, -1, 0, -1, -1), -11);
        DUE.is("copy: CAST, INDEX", x.copy(0, -1, 1, -1, -1), -12);
        comeToInCell(3, -1, 0, 1);
        comeToInCell(0, -1, 1, 2);
        DUE.is("a refusal told ahead of a fault: street", x.street(0, 3, -1, -1), -2);
        DUE.is("a refusal told ahead of a fault: sheet", x.sheet(0, 3, -1), -2);
        DUE.is("a refusal told ahead of a fault: put", x.put(4, -1, 0), -1);
        DUE.is("a refusal told ahead of a fault: copy", x.copy(3, 0, 4, 0, 0), -1);
    }

    private static void answersOfFaults() {
        SilkWord x = Given.busy();
        DUE.is("NULL", x.put(3, 0, 0), -11);
        DUE.is("CAST", x.as(0, 1), -12);
        DUE.is("INDEX", x.put(0, 4, 0), -13);
        DUE.is("SIZE", x.sheet(0, 0, -1), -14);
    }

    private static void lost() {
        DUE.is("LOST", LOST, Long.MIN_VALUE);
        SilkWord x = Given.busy();
        DUE.all("cell", LOST, x.cell(4, 0, 0), x.cell(0, 0, 3), x.cell(0, 0, 1), x.cell(3, 0, 0), x.cell(0, 4, 0));
        DUE.all("odds", LOST, x.odds(4, 0, 0), x.odds(0, 40, 0), x.odds(0, 0, 2));
        x.put(2, 0, MIN);
        DUE.is("the least number is not LOST", x.cell(2, 0, 2), MIN);
    }

    private static void faultsChangeNothing() {
        for (Given.Call[] calls : new Given.Call[][] {NULLS, CASTS, INDICES, SIZES}) {
            for (int k = 0; k < calls.length; k++) {
                SilkWord x = Given.busy();
                calls[k].on(x);
                DUE.isTrue("call " + k + " changes nothing", Given.shown(x).equals(Given.shown(Given.busy())));
            }
        }
    }

    private static void faultTells() {
        SilkWord x = Given.busy();
        x.put(3, 0, 0);
        DUE.all("NULL, as often as it is asked", 1, x.fault(), x.fault());
        x.as(0, 1);
        DUE.is("CAST", x.fault(), 2);
        x.put(0, 4, 0);
        DUE.is("INDEX", x.fault(), 3);
        x.sheet(0, 0, -1);
        DUE.is("SIZE", x.fault(), 4);
        x.put(0, 0, 0);
        DUE.is("none", x.fault(), 0);
    }

    // ---- numbers

    private static void none() {
        DUE.is("NONE", SilkWord.NONE, -9);
        SilkWord x = Due.streetOf("n;t50;s00");
        DUE.all("NONE", -9, x.says(0), x.fewest(), x.bribes(1), x.whispers(0));
        x.bribe(1, true);
        DUE.is("noticed", x.noticed(), -9);
    }

    private static void sets() {
        SilkWord x = Due.streetOf("n;s10;s10;s10;s10;s10;s10;s10");
        x.sheet(0, 0, 1);
        for (int k = 0; k < 6; k++) {
            x.word(k, 0);
            x.put(0, 0, k);
            DUE.is("crowd of " + k, x.crowd(0), 1 << k);
            DUE.is("heard by " + k, x.heard(k, 1, 0), 1 << k);
            DUE.is("asked of " + k, x.asked(0, 0, 0, 1), 1 << k);
            DUE.is("fewest beside " + k, x.fewest(), 127 - (1 << k));
            x.unsay(1);
        }
        x.word(6, 0);
        DUE.is("crowd of 6", x.crowd(39), 64);
        DUE.is("paid", x.paid(), 127);
        DUE.is("where", x.where(0), 127);
        DUE.is("the empty set", Due.streetOf("n;s00;s00").fewest(), 0);
    }

    private static void shares() {
        SilkWord x = Due.streetOf("n;s50;s00;s16;s26;s50;s50;s50");
        DUE.row("0 has the lower number 1", which -> x.odds(0, 39, which), 0, 1, LOST);
        DUE.row("64 of 128", which -> x.odds(1, 0, which), 1, 2, LOST);
        DUE.row("32 of 128", which -> x.odds(2, 39, which), 1, 4, LOST);
        DUE.row("16 of 128", which -> x.odds(3, 39, which), 1, 8, LOST);
    }
}
