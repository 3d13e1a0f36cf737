/** Promises 1 to 13, sentence by sentence, each at its edges: the street, days, silence. */
public final class Promises1To13Test {
    private static final Due DUE = new Due("Promises1To13Test");
    private static final Sentences DOC = new Sentences(DUE);
    private static final int MIN = Given.MIN, MAX = Given.MAX;
    private static final String CHAIN = "n;s11;s11;s11;s11;s11;s11;s11";
    private static final String NO_PERSON = "no PERSON";

    public static void main(String[] args) {
        aNewObject();
        street();
        ofPerson();
        word();
        unsay();
        bribe();
        whisper();
        forget();
        says();
        crowd();
        heard();
        silence();
        noticed();
        DOC.end();
    }

    private static void aNewObject() {
        DOC.promise(1, "A new object");
        DOC.says("No STREET (no PERSONS)", () -> {
            SilkWord x = new SilkWord();
            DUE.row("many", x::many, 0, 0, 0, 0);
            DUE.is("silence", x.silence(), -3);
            DUE.is("PERSON 0", x.ofPerson(0, 0), -1);
            DUE.is("PLACE 0", x.word(0, 0), -1);
        });
        DOC.says("SHEETS have nothing", () -> {
            SilkWord x = new SilkWord();
            DUE.row("lose", x::lose, 0, 0, 0, 0);
            DUE.row("cell", k -> x.cell(k, 0, 0), SilkWord.LOST, SilkWord.LOST, SilkWord.LOST, SilkWord.LOST);
            DUE.is("fault", x.fault(), 1);
        });
    }

    /** Sheet 0 has a text of two in bytes, from cell 1 to cell 9; sheet 3 nothing. */
    private static SilkWord written() {
        SilkWord x = new SilkWord();
        Due.write(x, 0, 0, "?n;s12;c34?");
        return x;
    }

    private static void street() {
        DOC.promise(2, "street");
        DOC.says("A STREET by a TEXT of n cells of a SHEET from i on, taken as a row of a LANE: how many PERSONS", () -> {
            SilkWord x = written();
            DUE.is("two", x.street(0, 0, 1, 9), 2);
            DUE.row("LOSES", p -> x.ofPerson(p, 1), 1, 3, -1);
            Due.write(x, 2, 2, Given.SEVEN);
            DUE.is("seven, to the end of a row", x.street(2, 2, 0, 29), 7);
            DUE.is("as many as n tells", x.street(2, 2, 0, 25), 6);
        });
        DOC.says("-100 less the FIRST FAULT", () -> {
            SilkWord x = written();
            DUE.is("its first code", x.street(0, 0, 0, 9), -100);
            DUE.is("its last code", x.street(0, 0, 1, 10), -109);
            DUE.is("its end", x.street(0, 0, 1, 8), -108);
            DUE.is("no codes", x.street(0, 0, 11, 0), -100);
            DUE.is("fault", x.fault(), 0);
            DUE.is("no STREET", x.silence(), -3);
        });
        streetRefuses();
    }

    private static void streetRefuses() {
        DOC.says("UNKNOWN", () -> {
            SilkWord x = written();
            DUE.all("no SHEET", -1, x.street(-1, 0, 1, 9), x.street(4, 0, 1, 9), x.street(MIN, 3, -1, -1), x.street(MAX, 0, 0, 0));
        });
        DOC.says("OUTSIDE: lane", () -> {
            SilkWord x = written();
            DUE.all("no LANE", -2, x.street(0, -1, 1, 9), x.street(0, 3, 1, 9), x.street(0, MIN, 0, 0), x.street(3, MAX, -1, -1));
        });
        DOC.says("CAST", () -> {
            SilkWord x = written();
            DUE.all("bytes as others", -12, x.street(0, 1, 1, 9), x.street(0, 2, 1, 9), x.street(0, 1, -1, -1), x.street(0, 2, 99, 0));
            DUE.is("fault", x.fault(), 2);
        });
        DOC.says("(nothing is no CAST)", () -> {
            SilkWord x = written();
            DUE.row("in each LANE", lane -> x.street(3, lane, 0, 0), -11, -11, -11, -2);
            x.lose(0);
            DUE.row("in each LANE, where bytes were", lane -> x.street(0, lane, 0, 0), -11, -11, -11, -2);
        });
        DOC.says("NULL", () -> {
            SilkWord x = written();
            DUE.all("ahead of SIZE, INDEX", -11, x.street(3, 0, 0, 9), x.street(3, 0, 0, -1), x.street(3, 0, -1, 0));
            DUE.is("fault", x.fault(), 1);
        });
        DOC.says("SIZE: n below 0", () -> {
            SilkWord x = written();
            DUE.all("ahead of INDEX", -14, x.street(0, 0, 1, -1), x.street(0, 0, 1, MIN), x.street(0, 0, -1, -1), x.street(0, 0, 99, -1));
            DUE.is("fault", x.fault(), 4);
        });
        DOC.says("INDEX", () -> {
            SilkWord x = written();
            DUE.all("beyond", -13, x.street(0, 0, 1, 11), x.street(0, 0, 11, 1), x.street(0, 0, 12, 0), x.street(0, 0, -1, 0),
                    x.street(0, 0, -1, 9), x.street(0, 0, MAX, 1), x.street(0, 0, 1, MAX), x.street(0, 0, MIN, 9));
            DUE.is("fault", x.fault(), 3);
        });
        DOC.says("-100 less it", () -> {
            SilkWord x = Given.busy();
            Due.write(x, 3, 1, "n;s00;s00;");
            DUE.is("a faulty TEXT", x.street(3, 1, 0, 10), -110);
            DUE.is("fault", x.fault(), 0);
            x.lose(3);
            DUE.isTrue("it changes nothing", Given.shown(x).equals(Given.shown(Given.busy())));
        });
    }

    private static void ofPerson() {
        DOC.promise(3, "ofPerson");
        SilkWord x = Due.streetOf("n;s00;s56;c00;c56;t00;t56;s33");
        DOC.says("Of a PERSON: 0 kind", () -> DUE.row("kind", p -> x.ofPerson(p, 0), 0, 0, 1, 1, 2, 2, 0, -1));
        DOC.says("1 what it LOSES", () -> DUE.row("LOSES", p -> x.ofPerson(p, 1), 0, 5, 0, 5, 0, 5, 3, -1));
        DOC.says("2 EAR", () -> DUE.row("EAR", p -> x.ofPerson(p, 2), 0, 6, 0, 6, 0, 6, 3, -1));
        DOC.says("3 what it DARES", () -> DUE.row("DARES", p -> x.ofPerson(p, 3), 0, 5, 1, 6, 2, 12, 3, -1));
        DOC.says("4 whether it is BRIBED (1, 0)", () -> {
            x.bribe(0, true);
            x.bribe(6, true);
            DUE.row("BRIBED", p -> x.ofPerson(p, 4), 1, 0, 0, 0, 0, 0, 1, -1);
            x.bribe(0, false);
            DUE.row("BRIBED", p -> x.ofPerson(p, 4), 0, 0, 0, 0, 0, 0, 1, -1);
        });
        DOC.says("UNKNOWN", () -> DUE.all(NO_PERSON, -1, x.ofPerson(-1, 0), x.ofPerson(7, 0), x.ofPerson(MIN, 9),
                x.ofPerson(MAX, -1), new SilkWord().ofPerson(0, 0)));
        DOC.says("OUTSIDE", () -> DUE.all("no such what", -2, x.ofPerson(0, -1), x.ofPerson(6, 5), x.ofPerson(0, MIN), x.ofPerson(0, MAX)));
    }

    private static void word() {
        DOC.promise(4, "word");
        DOC.says("A WORD: its number", () -> {
            SilkWord x = Due.streetOf("n;s10;s10");
            DUE.is("at the first PLACE, on the first DAY", x.word(0, 0), 0);
            DUE.is("at the last PLACE, on the last DAY", x.word(1, 39), 1);
            DUE.row("says", x::says, 0, 39);
            DUE.is("one like another", x.word(1, 39), 2);
        });
        DOC.says("UNKNOWN: PLACE (that of no PERSON)", () -> {
            SilkWord x = Due.streetOf("n;s10;s10");
            DUE.all("no PLACE", -1, x.word(-1, 0), x.word(2, 0), x.word(6, 0), x.word(MIN, 40), x.word(MAX, -1), new SilkWord().word(0, 0));
            DUE.is("many", x.many(1), 0);
        });
        DOC.says("OUTSIDE: day", () -> {
            SilkWord x = Due.streetOf("n;s10;s10");
            DUE.all("no DAY", -2, x.word(0, -1), x.word(0, 40), x.word(1, MIN), x.word(1, MAX));
            DUE.is("many", x.many(1), 0);
        });
        DOC.says("FULL", () -> {
            SilkWord x = Due.streetOf("n;s10;s10");
            DUE.row("word", k -> x.word(0, 9), 0, 1, 2, 3, 4, 5, -4);
            DUE.all("FULL is told last", -1, x.word(2, 0), x.word(2, 40));
            DUE.is("FULL is told last", x.word(0, 40), -2);
            DUE.is("a seventh does not fall", x.word(1, 0), -4);
            DUE.row("says", x::says, 9, -9);
        });
    }

    private static void unsay() {
        DOC.promise(5, "unsay");
        DOC.says("The last k WORDS (0 .. as many as there are) are unsaid: how many are left", () -> {
            SilkWord x = Due.streetOf("n;s10;s10;s10");
            DUE.is("none of none", x.unsay(0), 0);
            x.word(0, 0);
            x.word(1, 0);
            x.word(2, 0);
            DUE.is("none", x.unsay(0), 3);
            DUE.is("crowd", x.crowd(0), 7);
            DUE.is("one", x.unsay(1), 2);
            DUE.is("crowd", x.crowd(0), 3);
            DUE.is("all", x.unsay(2), 0);
            DUE.is("crowd", x.crowd(0), 0);
            DUE.is("many", x.many(1), 0);
        });
        DOC.says("OUTSIDE", () -> {
            SilkWord x = Due.streetOf("n;s10;s10;s10");
            DUE.all("of none", -2, x.unsay(1), x.unsay(-1));
            x.word(0, 0);
            DUE.all("of one", -2, x.unsay(2), x.unsay(-1), x.unsay(MIN), x.unsay(MAX));
            DUE.is("many", x.many(1), 1);
            DUE.all("without a STREET", -2, new SilkWord().unsay(1), new SilkWord().unsay(-1));
            DUE.is("none, without a STREET", new SilkWord().unsay(0), 0);
        });
    }

    private static void bribe() {
        DOC.promise(6, "bribe");
        DOC.says("A PERSON is BRIBED (true), or not: 1", () -> {
            SilkWord x = Due.streetOf("n;s00;s00");
            DUE.all("BRIBED", 1, x.bribe(0, true), x.bribe(1, true));
            DUE.is("crowd", x.crowd(39), 0);
            DUE.is("not", x.bribe(1, false), 1);
            DUE.is("crowd", x.crowd(39), 2);
        });
        DOC.says("0: it was so", () -> {
            SilkWord x = Due.streetOf("n;s00;s00");
            DUE.is("not, at first", x.bribe(0, false), 0);
            x.bribe(0, true);
            DUE.is("BRIBED", x.bribe(0, true), 0);
            DUE.is("BRIBED still", x.ofPerson(0, 4), 1);
            DUE.is("the other is not", x.bribe(1, false), 0);
        });
        DOC.says("UNKNOWN", () -> {
            SilkWord x = Due.streetOf("n;s00;s00");
            DUE.all(NO_PERSON, -1, x.bribe(-1, true), x.bribe(2, true), x.bribe(2, false), x.bribe(32, true), x.bribe(MIN, true),
                    x.bribe(MAX, false), new SilkWord().bribe(0, true));
            DUE.is("crowd", x.crowd(0), 3);
        });
    }

    private static void whisper() {
        DOC.promise(7, "whisper");
        DOC.says("A WHISPER: its number", () -> {
            SilkWord x = Due.streetOf(CHAIN);
            DUE.is("the first and the last", x.whisper(0, 6), 0);
            DUE.is("the last and the first", x.whisper(6, 0), 1);
            DUE.row("HELD on DAY 0", p -> x.heard(p, 0, 1), 2, 0, 0, 0, 0, 0, 2);
        });
        DOC.says("UNKNOWN: PERSONS", () -> {
            SilkWord x = Due.streetOf("n;s10;s10");
            DUE.all(NO_PERSON, -1, x.whisper(-1, 0), x.whisper(0, -1), x.whisper(2, 0), x.whisper(0, 2), x.whisper(MIN, 1),
                    x.whisper(1, MAX), x.whisper(7, 8), new SilkWord().whisper(0, 1));
            DUE.is("many", x.many(2), 0);
        });
        DOC.says("(they are one: so, too)", () -> {
            SilkWord x = Due.streetOf("n;s10;s10");
            DUE.all("one", -1, x.whisper(0, 0), x.whisper(1, 1), x.whisper(2, 2), x.whisper(-1, -1));
            DUE.is("many", x.many(2), 0);
        });
        DOC.says("FULL", () -> {
            SilkWord x = Due.streetOf("n;s10;s10;s10");
            DUE.row("whisper", k -> x.whisper(0, 1), 0, 1, 2, 3, 4, 5, -4);
            DUE.all("FULL is told last", -1, x.whisper(0, 3), x.whisper(1, 1));
            DUE.is("a seventh is not whispered", x.whisper(1, 2), -4);
            DUE.row("says", x::says, 0, 0, -9);
        });
    }

    private static void forget() {
        DOC.promise(8, "forget");
        DOC.says("The last k WHISPERS (0 .. as many as there are) are forgotten: how many are left", () -> {
            SilkWord x = Due.streetOf("n;s10;s10;s10;s10");
            DUE.is("none of none", x.forget(0), 0);
            x.whisper(0, 1);
            x.whisper(1, 2);
            x.whisper(2, 3);
            DUE.is("none", x.forget(0), 3);
            DUE.is("crowd", x.crowd(0), 15);
            DUE.is("one", x.forget(1), 2);
            DUE.is("crowd", x.crowd(0), 7);
            DUE.is("all", x.forget(2), 0);
            DUE.is("crowd", x.crowd(0), 0);
            DUE.is("many", x.many(2), 0);
        });
        DOC.says("OUTSIDE", () -> {
            SilkWord x = Due.streetOf("n;s10;s10");
            DUE.all("of none", -2, x.forget(1), x.forget(-1));
            x.whisper(0, 1);
            DUE.all("of one", -2, x.forget(2), x.forget(-1), x.forget(MIN), x.forget(MAX));
            DUE.is("many", x.many(2), 1);
            DUE.all("without a STREET", -2, new SilkWord().forget(1), new SilkWord().forget(-1));
            DUE.is("none, without a STREET", new SilkWord().forget(0), 0);
        });
    }

    private static void says() {
        DOC.promise(9, "says");
        DOC.says("The DAY on which a PERSON SAYS it", () -> {
            SilkWord x = Due.streetOf(CHAIN);
            x.word(0, 0);
            DUE.row("from DAY 0 on", x::says, 0, 0, 1, 2, 3, 4, 5);
            x.unsay(1);
            x.word(6, 34);
            DUE.row("to DAY 39", x::says, 39, 38, 37, 36, 35, 34, 34);
        });
        DOC.says("NONE: never", () -> {
            SilkWord x = Due.streetOf("n;s10;s00;t50");
            DUE.row("says", x::says, -9, 0, -9);
            x.word(0, 39);
            DUE.row("says", x::says, 39, 0, -9);
            x.bribe(1, true);
            DUE.row("says", x::says, 39, -9, -9);
        });
        DOC.says("UNKNOWN", () -> {
            SilkWord x = Due.streetOf("n;s10;s00;t50");
            DUE.all(NO_PERSON, -1, x.says(-1), x.says(3), x.says(MIN), x.says(MAX), new SilkWord().says(0));
        });
    }

    private static void crowd() {
        DOC.promise(10, "crowd");
        DOC.says("Who has said it as a DAY ends, as a set", () -> {
            SilkWord x = Due.streetOf(CHAIN);
            DUE.is("nobody", x.crowd(39), 0);
            x.word(3, 36);
            DUE.row("crowd", k -> x.crowd(35 + k), 0, 28, 62, 127, 127);
            DUE.is("on DAY 0", Due.streetOf("n;s00;s50").crowd(0), 1);
        });
        DOC.says("OUTSIDE", () -> {
            SilkWord x = Due.streetOf(CHAIN);
            DUE.all("no DAY", -2, x.crowd(-1), x.crowd(40), x.crowd(MIN), x.crowd(MAX));
            DUE.all("no DAY, no STREET", -2, new SilkWord().crowd(-1), new SilkWord().crowd(40));
        });
        DOC.says("STATE: there is no STREET", () -> DUE.all("no STREET", -3, new SilkWord().crowd(0), new SilkWord().crowd(39)));
    }

    private static void heard() {
        DOC.promise(11, "heard");
        DOC.says("PERSONS that one has HEARD on a DAY, as a set (what 0)", () -> {
            SilkWord x = Due.streetOf(CHAIN);
            x.word(6, 0);
            DUE.row("by 6", day -> x.heard(6, day, 0), 0, 96, 96);
            DUE.row("by 0", day -> x.heard(0, day, 0), 0, 0, 0, 0, 0, 2, 3, 3);
            DUE.is("on DAY 39", x.heard(3, 39, 0), 28);
        });
        DOC.says("what is HELD (1)", () -> {
            SilkWord x = Due.streetOf(CHAIN);
            x.word(6, 0);
            x.word(5, 39);
            x.whisper(6, 0);
            DUE.row("by 6", day -> x.heard(6, day, 1), 2, 4, 4);
            DUE.is("by 6 on DAY 38", x.heard(6, 38, 1), 4);
            DUE.is("by 6 on DAY 39", x.heard(6, 39, 1), 5);
            DUE.is("by 3 on DAY 0", x.heard(3, 0, 1), 0);
        });
        DOC.says("UNKNOWN", () -> {
            SilkWord x = Due.streetOf(CHAIN);
            DUE.all(NO_PERSON, -1, x.heard(-1, 0, 0), x.heard(7, 0, 1), x.heard(MIN, 40, 2), x.heard(MAX, -1, -1), new SilkWord().heard(0, 0, 0));
        });
        DOC.says("OUTSIDE", () -> {
            SilkWord x = Due.streetOf(CHAIN);
            DUE.all("no DAY", -2, x.heard(0, -1, 0), x.heard(6, 40, 1), x.heard(0, MIN, 0), x.heard(0, MAX, 0));
            DUE.all("no such what", -2, x.heard(0, 0, -1), x.heard(6, 39, 2), x.heard(0, 0, MIN), x.heard(0, 0, MAX));
        });
    }

    private static void silence() {
        DOC.promise(12, "silence");
        DOC.says("Whether SILENCE holds (1, 0)", () -> {
            SilkWord x = Due.streetOf("n;s10;t50");
            DUE.is("it holds", x.silence(), 1);
            x.word(1, 0);
            DUE.is("it holds, a WORD in no EAR", x.silence(), 1);
            x.word(0, 39);
            DUE.is("broken on the last DAY", x.silence(), 0);
            x.bribe(0, true);
            DUE.is("it holds by a BRIBE", x.silence(), 1);
        });
        DOC.says("STATE: there is no STREET", () -> DUE.is("no STREET", new SilkWord().silence(), -3));
    }

    private static void noticed() {
        DOC.promise(13, "noticed");
        DOC.says("NOTICED", () -> {
            DUE.is("on DAY 0", Due.streetOf("n;s00;s50").noticed(), 0);
            SilkWord x = Due.streetOf("n;s10;s10;s10");
            x.word(0, 3);
            x.word(2, 39);
            DUE.is("on DAY 39, by two of three", x.noticed(), 39);
        });
        DOC.says("NONE: never", () -> {
            DUE.is("by nobody", Due.streetOf("n;s10;s10").noticed(), -9);
            DUE.is("by one of three", Due.streetOf("n;s00;s50;s50").noticed(), -9);
            DUE.is("by three of seven", Due.streetOf("n;s00;s00;s00;s50;t50;t50;t50").noticed(), -9);
        });
        DOC.says("STATE: there is no STREET", () -> DUE.is("no STREET", new SilkWord().noticed(), -3));
    }
}
