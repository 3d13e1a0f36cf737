/** Promises 1 to 8: a new object, street, ofPerson, word, unsay, bribe, whisper, forget. */
public final class StreetTest {
    private static final Due DUE = new Due("StreetTest");
    private static final String SEVEN = "n;s00;s16;c20;c36;t40;t56;s23";

    public static void main(String[] args) {
        aNewObject();
        aNewObjectRefuses();
        streetInEveryLane();
        streetOrderOfRefusals();
        streetIndex();
        streetFirstFault();
        streetCodesAreCells();
        streetMakesAllAnew();
        aFaultyTextChangesNothing();
        ofPerson();
        word();
        unsay();
        bribe();
        whisper();
        forget();
        DUE.end();
    }

    private static void aNewObject() {
        SilkWord x = new SilkWord();
        DUE.is("fault() ahead of any", x.fault(), 0);
        DUE.is("trace() at first", x.trace(), 0);
        DUE.row("many of a new object", x::many, 0, 0, 0, 0);
        DUE.row("lose of a new object", x::lose, 0, 0, 0, 0);
        DUE.row("put into nothing", k -> x.put(k, 0, 1), -11, -11, -11, -11);
    }

    private static void aNewObjectRefuses() {
        SilkWord x = new SilkWord();
        DUE.is("ofPerson(0, 0)", x.ofPerson(0, 0), -1);
        DUE.is("word(0, 0)", x.word(0, 0), -1);
        DUE.is("unsay(0)", x.unsay(0), 0);
        DUE.is("unsay(1)", x.unsay(1), -2);
        DUE.is("bribe(0, true)", x.bribe(0, true), -1);
        DUE.is("whisper(0, 1)", x.whisper(0, 1), -1);
        DUE.is("forget(0)", x.forget(0), 0);
        DUE.is("forget(1)", x.forget(1), -2);
        DUE.is("says(0)", x.says(0), -1);
        DUE.is("crowd(0)", x.crowd(0), -3);
        DUE.is("crowd(40)", x.crowd(40), -2);
        DUE.is("heard(0, 0, 0)", x.heard(0, 0, 0), -1);
        DUE.is("silence()", x.silence(), -3);
        DUE.is("noticed()", x.noticed(), -3);
        DUE.is("fewest()", x.fewest(), -3);
        DUE.is("bribes(0)", x.bribes(0), -1);
        DUE.is("whispers(0)", x.whispers(0), -3);
        DUE.is("whispers(2)", x.whispers(2), -2);
        DUE.is("worth(0)", x.worth(0), -1);
        DUE.is("asked(0, 0, 0, 0)", x.asked(0, 0, 0, 0), -3);
        DUE.is("reading(0, 0, true)", x.reading(0, 0, true), -1);
        DUE.is("back(0)", x.back(0), 0);
        DUE.is("back(1)", x.back(1), -2);
        DUE.is("where(0)", x.where(0), -3);
        DUE.is("where(40)", x.where(40), -2);
        DUE.is("paid()", x.paid(), -3);
        DUE.is("odds(0, 0, 0)", x.odds(0, 0, 0), SilkWord.LOST);
        DUE.is("tell(0)", x.tell(0), -1);
        DUE.is("bow(0)", x.bow(0), -1);
        DUE.is("as(0, 0)", x.as(0, 0), -1);
    }

    private static void streetInEveryLane() {
        for (int lane = 0; lane < 3; lane++) {
            SilkWord x = new SilkWord();
            Due.write(x, lane, lane, "??" + SEVEN + "?");
            DUE.is("street of 7 in lane " + lane, x.street(lane, lane, 2, 29), 7);
            DUE.is("many(0)", x.many(0), 7);
            DUE.is("street of its first 2", x.street(lane, lane, 2, 9), 2);
            DUE.is("many(0)", x.many(0), 2);
        }
    }

    private static void streetOrderOfRefusals() {
        SilkWord x = new SilkWord();
        Due.write(x, 1, 1, "n;s11;s11");
        DUE.is("street(4, 3, -1, -1)", x.street(4, 3, -1, -1), -1);
        DUE.is("street(-1, 0, 0, 9)", x.street(-1, 0, 0, 9), -1);
        DUE.is("street(0, 3, -1, -1)", x.street(0, 3, -1, -1), -2);
        DUE.is("street(1, -1, 0, 9)", x.street(1, -1, 0, 9), -2);
        DUE.is("fault() of a refusal", x.fault(), 0);
        DUE.is("street(1, 0, -1, -1)", x.street(1, 0, -1, -1), -12);
        DUE.is("fault()", x.fault(), 2);
        DUE.is("street(1, 2, 0, 9)", x.street(1, 2, 0, 9), -12);
        for (int lane = 0; lane < 3; lane++) {
            DUE.is("street of nothing", x.street(0, lane, -1, -1), -11);
            DUE.is("fault()", x.fault(), 1);
        }
        DUE.is("street(1, 1, -1, -1)", x.street(1, 1, -1, -1), -14);
        DUE.is("fault()", x.fault(), 4);
        DUE.is("street(1, 1, 0, MIN)", x.street(1, 1, 0, Integer.MIN_VALUE), -14);
        DUE.is("street(1, 1, -1, 3)", x.street(1, 1, -1, 3), -13);
        DUE.is("fault()", x.fault(), 3);
        DUE.is("street(4, 1, 0, 9)", x.street(4, 1, 0, 9), -1);
        DUE.is("fault() of a refusal", x.fault(), 0);
        DUE.is("many(0): nothing was taken", x.many(0), 0);
        x.street(1, 1, 0, 10);
        DUE.is("street(1, 1, 0, 9)", x.street(1, 1, 0, 9), 2);
        DUE.is("fault() of what is taken", x.fault(), 0);
    }

    private static void streetIndex() {
        SilkWord x = new SilkWord();
        Due.write(x, 2, 2, "n;s11;s11");
        DUE.is("i at the end, n 0", x.street(2, 2, 9, 0), -100);
        DUE.is("fault()", x.fault(), 0);
        DUE.is("i behind the end, n 0", x.street(2, 2, 10, 0), -13);
        DUE.is("i below 0, n 0", x.street(2, 2, -1, 0), -13);
        DUE.is("one cell too many", x.street(2, 2, 0, 10), -13);
        DUE.is("one cell too many further on", x.street(2, 2, 1, 9), -13);
        DUE.is("i and n that wrap", x.street(2, 2, 1, Integer.MAX_VALUE), -13);
        DUE.is("i that wraps", x.street(2, 2, Integer.MAX_VALUE, 1), -13);
        DUE.is("i least", x.street(2, 2, Integer.MIN_VALUE, 9), -13);
        x.sheet(0, 0, 0);
        DUE.is("a row of none", x.street(0, 0, 0, 0), -100);
        DUE.is("a row of none, one cell", x.street(0, 0, 0, 1), -13);
    }

    private static void streetFirstFault() {
        fault("", 0);
        fault("x", 0);
        fault("N;s11;s11", 0);
        fault(";s11;s11", 0);
        fault("n", 1);
        fault("nn;s11;s11", 1);
        fault("n:s11;s11", 1);
        fault("n;", 2);
        fault("n;n11;s11", 2);
        fault("n;S11;s11", 2);
        fault("n;111;s11", 2);
        fault("n;s", 3);
        fault("n;s/1;s11", 3);
        fault("n;c61;s11", 3);
        fault("n;t;", 3);
        fault("n;s1", 4);
        fault("n;s1/;s11", 4);
        fault("n;s17;s11", 4);
        fault("n;s1;s11", 4);
        fault("n;s11", 5);
        fault("n;s11 s11", 5);
        fault("n;s11n", 5);
        fault("n;s11;", 6);
        fault("n;s11;s", 7);
        fault("n;s11;s1", 8);
        fault("n;s11;s19", 8);
        fault("n;s11;s11s", 9);
        fault("n;s11;s11;", 10);
        fault("n;s11;s11;s", 11);
        fault("n;s11;s11;s1x", 12);
        fault(SEVEN + ";", 29);
        fault(SEVEN + "s", 29);
        fault(SEVEN + ";s11", 29);
        fault(SEVEN.substring(0, 28), 28);
        taken("n;s00;s00", 2);
        taken("n;t56;c56;s56", 3);
        taken(SEVEN.substring(0, 25), 6);
        taken(SEVEN, 7);
    }

    private static void fault(String text, int place) {
        SilkWord x = new SilkWord();
        DUE.is("the text '" + text + "'", Due.take(x, text), -100 - place);
        DUE.is("many(0) behind it", x.many(0), 0);
        DUE.is("fault() behind it", x.fault(), 0);
    }

    private static void taken(String text, int persons) {
        SilkWord x = new SilkWord();
        DUE.is("the text '" + text + "'", Due.take(x, text), persons);
        DUE.is("many(0) behind it", x.many(0), persons);
    }

    private static void streetCodesAreCells() {
        SilkWord x = new SilkWord();
        for (int lane = 0; lane < 3; lane++) {
            Due.write(x, lane, lane, "n;s11;s11");
        }
        x.put(0, 0, 110 + 256);
        x.put(1, 0, 110 + 256);
        DUE.is("a byte is cut", x.street(0, 0, 0, 9), 2);
        DUE.is("a short is not cut to a byte", x.street(1, 1, 0, 9), -100);
        x.put(1, 0, 110 + 65536);
        x.put(2, 0, 110 + 65536);
        DUE.is("a short is cut", x.street(1, 1, 0, 9), 2);
        DUE.is("an int is not cut", x.street(2, 2, 0, 9), -100);
        x.put(0, 5, 59 - 128);
        DUE.is("a byte below 0", x.street(0, 0, 0, 9), -105);
    }

    private static SilkWord busy() {
        SilkWord x = Due.streetOf("n;s11;c22;t03");
        x.word(0, 0);
        x.word(1, 7);
        x.whisper(0, 2);
        x.bribe(1, true);
        x.reading(0, 0, true);
        x.reading(2, 5, false);
        x.reading(2, 6, false);
        return x;
    }

    private static void streetMakesAllAnew() {
        SilkWord x = busy();
        DUE.row("many of a busy street", x::many, 3, 2, 1, 3);
        x.tell(0);
        DUE.is("a new street", Due.take(x, "n;s41;s52;s16"), 3);
        DUE.row("many of the new street", x::many, 3, 0, 0, 0);
        DUE.row("bribed in the new street", p -> x.ofPerson(p, 4), 0, 0, 0);
        DUE.row("loses in the new street", p -> x.ofPerson(p, 1), 4, 5, 1);
        DUE.is("silence in the new street", x.silence(), 1);
        DUE.is("paid() in the new street", x.paid(), 7);
        DUE.is("trace() stays", x.trace(), 1);
        DUE.is("the sheet stays", x.cell(3, 0, 0), 110);
    }

    private static void aFaultyTextChangesNothing() {
        SilkWord x = busy();
        Due.take(x, "n;s00;s00;s00;s00;x");
        x.street(3, 0, 0, 61);
        x.street(3, 1, 0, 9);
        DUE.row("many behind a faulty text", x::many, 3, 2, 1, 3);
        DUE.row("kinds", p -> x.ofPerson(p, 0), 0, 1, 2);
        DUE.row("bribed", p -> x.ofPerson(p, 4), 0, 1, 0);
        DUE.is("says(0)", x.says(0), 0);
    }

    private static void ofPerson() {
        SilkWord x = Due.streetOf("n;s00;s56;c00;c54;t01;t53;t22");
        DUE.row("kind", p -> x.ofPerson(p, 0), 0, 0, 1, 1, 2, 2, 2, -1);
        DUE.row("loses", p -> x.ofPerson(p, 1), 0, 5, 0, 5, 0, 5, 2, -1);
        DUE.row("ear", p -> x.ofPerson(p, 2), 0, 6, 0, 4, 1, 3, 2, -1);
        DUE.row("dares", p -> x.ofPerson(p, 3), 0, 5, 1, 6, 2, 12, 6, -1);
        x.bribe(6, true);
        DUE.row("bribed", p -> x.ofPerson(p, 4), 0, 0, 0, 0, 0, 0, 1, -1);
        DUE.is("ofPerson(0, -1)", x.ofPerson(0, -1), -2);
        DUE.is("ofPerson(0, 5)", x.ofPerson(0, 5), -2);
        DUE.is("ofPerson(-1, 5)", x.ofPerson(-1, 5), -1);
        DUE.is("ofPerson(7, 9)", x.ofPerson(7, 9), -1);
        DUE.is("ofPerson(MIN, 0)", x.ofPerson(Integer.MIN_VALUE, 0), -1);
        DUE.is("ofPerson(MAX, 0)", x.ofPerson(Integer.MAX_VALUE, 0), -1);
    }

    private static void word() {
        SilkWord x = Due.streetOf("n;s11;s11");
        DUE.is("word(2, 40)", x.word(2, 40), -1);
        DUE.is("word(-1, 0)", x.word(-1, 0), -1);
        DUE.is("word(0, 40)", x.word(0, 40), -2);
        DUE.is("word(0, -1)", x.word(0, -1), -2);
        DUE.is("many(1)", x.many(1), 0);
        DUE.row("word(1, 39)", k -> x.word(1, 39), 0, 1, 2, 3, 4, 5, -4);
        DUE.is("word(2, 0) when full", x.word(2, 0), -1);
        DUE.is("word(0, 40) when full", x.word(0, 40), -2);
        DUE.is("many(1)", x.many(1), 6);
        DUE.is("says(0)", x.says(0), 39);
        x.unsay(1);
        DUE.is("word(0, 0)", x.word(0, 0), 5);
        DUE.is("says(0)", x.says(0), 0);
    }

    private static void unsay() {
        SilkWord x = Due.streetOf("n;s10;s10;s10");
        x.word(0, 0);
        x.word(1, 0);
        x.word(2, 0);
        DUE.is("unsay(4)", x.unsay(4), -2);
        DUE.is("unsay(-1)", x.unsay(-1), -2);
        DUE.is("unsay(0)", x.unsay(0), 3);
        DUE.is("crowd(39)", x.crowd(39), 7);
        DUE.is("unsay(2)", x.unsay(2), 1);
        DUE.is("crowd(39): the last ones are unsaid", x.crowd(39), 1);
        DUE.is("many(1)", x.many(1), 1);
        DUE.is("unsay(2)", x.unsay(2), -2);
        DUE.is("unsay(1)", x.unsay(1), 0);
        DUE.is("crowd(39)", x.crowd(39), 0);
    }

    private static void bribe() {
        SilkWord x = Due.streetOf("n;s00;s00");
        DUE.is("bribe(2, true)", x.bribe(2, true), -1);
        DUE.is("bribe(-1, false)", x.bribe(-1, false), -1);
        DUE.is("bribe(0, false) at first", x.bribe(0, false), 0);
        DUE.is("bribe(1, true)", x.bribe(1, true), 1);
        DUE.is("bribe(1, true) again", x.bribe(1, true), 0);
        DUE.is("ofPerson(1, 4)", x.ofPerson(1, 4), 1);
        DUE.is("crowd(0)", x.crowd(0), 1);
        DUE.is("bribe(1, false)", x.bribe(1, false), 1);
        DUE.is("bribe(1, false) again", x.bribe(1, false), 0);
        DUE.is("crowd(0)", x.crowd(0), 3);
    }

    private static void whisper() {
        SilkWord x = Due.streetOf("n;s10;s20;s40");
        DUE.is("whisper(0, 0)", x.whisper(0, 0), -1);
        DUE.is("whisper(0, 3)", x.whisper(0, 3), -1);
        DUE.is("whisper(3, 0)", x.whisper(3, 0), -1);
        DUE.is("whisper(-1, 0)", x.whisper(-1, 0), -1);
        DUE.is("whisper(0, -1)", x.whisper(0, -1), -1);
        DUE.is("whisper(2, 0)", x.whisper(2, 0), 0);
        DUE.is("crowd(0): it counts for both", x.crowd(0), 1);
        DUE.is("whisper(1, 2)", x.whisper(1, 2), 1);
        DUE.is("whisper(1, 2) again", x.whisper(1, 2), 2);
        DUE.is("crowd(0): alike ones count each", x.crowd(0), 3);
        DUE.is("whisper(2, 1)", x.whisper(2, 1), 3);
        DUE.is("crowd(0)", x.crowd(0), 7);
        DUE.row("whisper(0, 1)", k -> x.whisper(0, 1), 4, 5, -4);
        DUE.is("whisper(1, 1) when full", x.whisper(1, 1), -1);
        DUE.is("many(2)", x.many(2), 6);
    }

    private static void forget() {
        SilkWord x = Due.streetOf("n;s10;s10;s10");
        x.whisper(0, 1);
        x.whisper(1, 2);
        DUE.is("forget(3)", x.forget(3), -2);
        DUE.is("forget(-1)", x.forget(-1), -2);
        DUE.is("forget(0)", x.forget(0), 2);
        DUE.is("crowd(0)", x.crowd(0), 7);
        DUE.is("forget(1)", x.forget(1), 1);
        DUE.is("crowd(0): the last one is forgotten", x.crowd(0), 3);
        DUE.is("forget(1)", x.forget(1), 0);
        DUE.is("crowd(0)", x.crowd(0), 0);
        DUE.is("forget(1)", x.forget(1), -2);
    }
}
