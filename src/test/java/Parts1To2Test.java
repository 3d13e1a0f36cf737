/** What the document's parts 1 and 2 say, sentence by sentence: a street by a text, days. */
public final class Parts1To2Test {
    private static final Due DUE = new Due("Parts1To2Test");
    private static final Sentences DOC = new Sentences(DUE);
    private static final String THREE = "n;s11;c22;t33";
    private static final String CHAIN = "n;s11;s11;s11;s11;s11;s11;s11";
    private static final String DEAF = "n;t50;t50;t50;t50;t50;t50;t50";

    public static void main(String[] args) {
        DOC.section("==== 1 ", "==== 2 ");
        theText();
        kindsAndWhatIsAnew();
        DOC.section("==== 2 ", "==== 3 ");
        daysWordsWhispers();
        whatIsHeard();
        DOC.end();
    }

    private static void theText() {
        DOC.says("A STREET by a TEXT: n", () -> codesAt(0, "n"));
        DOC.says("then 2 to 7 PERSONS", Parts1To2Test::howManyPersons);
        DOC.says("numbered from 0 on (PERSON k stands at PLACE k of a row)", Parts1To2Test::personsAtPlaces);
        DOC.says("each: ; and a letter", Parts1To2Test::separatorsAndLetters);
        DOC.says("a digit 0 .. 5 (LOSES)", Parts1To2Test::losesDigits);
        DOC.says("a digit 0 .. 6 (EAR)", Parts1To2Test::earDigits);
        DOC.says("FIRST FAULT: the place (from 0 on) of the first code with which no TEXT goes on", Parts1To2Test::firstFault);
        DOC.says("(the ; of an eighth PERSON)", Parts1To2Test::anEighthPerson);
        DOC.says("how many codes there are, if it just ends too soon", Parts1To2Test::endsTooSoon);
        DOC.says("(Codes: n 110, s 115, c 99, t 116, ; 59, digits 48 .. 57.)", Parts1To2Test::codes);
    }

    private static void kindsAndWhatIsAnew() {
        DOC.says("Kinds: 0 SUBJECT (s)", () -> kind(0, 1, -12, -12));
        DOC.says("1 COURTIER (c), a SUBJECT", () -> kind(1, 1, 1, -12));
        DOC.says("2 TAILOR (t), a COURTIER", () -> kind(2, 1, 1, 1));
        DOC.says("A TEXT that is taken makes all anew: no WORDS", Parts1To2Test::noWords);
        DOC.says("nobody BRIBED", Parts1To2Test::nobodyBribed);
        DOC.says("no WHISPERS", Parts1To2Test::noWhispers);
        DOC.says("no READINGS", Parts1To2Test::noReadings);
        DOC.says("DARES: how many must have said it, ahead of one: of a SUBJECT as much as it LOSES",
                () -> dares('s', 0, 1, 2, 3, 4, 5));
        DOC.says("of a COURTIER 1 more", () -> dares('c', 1, 2, 3, 4, 5, 6));
        DOC.says("of a TAILOR twice what a COURTIER of its LOSES does", () -> dares('t', 2, 4, 6, 8, 10, 12));
    }

    private static void daysWordsWhispers() {
        DOC.says("DAYS 0 .. 39", Parts1To2Test::days);
        DOC.says("WORDS, 6 at most", Parts1To2Test::sixWords);
        DOC.says("numbered by how many there are", Parts1To2Test::numbersOfWords);
        DOC.says("on a DAY a stranger says it at a PLACE", Parts1To2Test::aStranger);
        DOC.says("WHISPERS, 6 at most", Parts1To2Test::sixWhispers);
        DOC.says("numbered likewise", Parts1To2Test::numbersOfWhispers);
        DOC.says("between two PERSONS, for ever", Parts1To2Test::forEver);
    }

    private static void whatIsHeard() {
        DOC.says("HEARD by one on a DAY: PERSONS at PLACES no further than its EAR", Parts1To2Test::personsInEar);
        DOC.says("that said it on a DAY ahead", Parts1To2Test::onADayAhead);
        DOC.says("and WORDS of that DAY, or ahead of it", Parts1To2Test::wordsOfThatDay);
        DOC.says("at PLACES no further than its EAR (its own, too)", Parts1To2Test::wordsInEar);
        DOC.says("HELD: how many these are, and how many WHISPERS it is in", Parts1To2Test::held);
        DOC.says("On each DAY each PERSON that has not said it", Parts1To2Test::saidOnce);
        DOC.says("and is not BRIBED, SAYS it", Parts1To2Test::notBribed);
        DOC.says("if what is HELD on that DAY is as much as it DARES, or more", Parts1To2Test::asMuchAsItDares);
        DOC.says("(All at once: who says it on a DAY is HEARD from the next one on.)", Parts1To2Test::allAtOnce);
    }

    // ---- 1

    /** What a text of three answers with another code at a place. */
    private static int withCode(int lane, int place, int code) {
        SilkWord x = new SilkWord();
        Due.write(x, 0, lane, THREE);
        x.put(0, place, code);
        return x.street(0, lane, 0, THREE.length());
    }

    private static void codesAt(int place, String fit) {
        for (int code = -128; code < 128; code++) {
            boolean fits = code > 0 && fit.indexOf(code) >= 0;
            DUE.is("code " + code + " at " + place, withCode(0, place, code), fits ? 3 : -100 - place);
        }
        for (int code : new int[] {fit.charAt(0) + 256, fit.charAt(0) - 256, 32767, -32768}) {
            DUE.is("code " + code + " at " + place + " of shorts", withCode(1, place, code), -100 - place);
        }
        for (int code : new int[] {fit.charAt(0) + 65536, fit.charAt(0) - 65536, Given.MAX, Given.MIN}) {
            DUE.is("code " + code + " at " + place + " of ints", withCode(2, place, code), -100 - place);
        }
    }

    private static void howManyPersons() {
        int[] due = {-101, -105, 2, 3, 4, 5, 6, 7, -129};
        for (int persons = 0; persons < due.length; persons++) {
            DUE.is(persons + " PERSONS", Due.take(new SilkWord(), "n" + ";s11".repeat(persons)), due[persons]);
        }
    }

    private static void personsAtPlaces() {
        SilkWord x = Due.streetOf("n;s00;s11;s22;s33;s44;s55;s06");
        DUE.row("EAR", p -> x.ofPerson(p, 2), 0, 1, 2, 3, 4, 5, 6, -1);
        SilkWord y = Due.streetOf("n;s10;s10;s10;s10;s10;s10;s10");
        for (int place = 0; place < 7; place++) {
            y.word(place, 0);
            DUE.is("the one at PLACE " + place, y.crowd(39), 1 << place);
            y.unsay(1);
        }
    }

    private static void separatorsAndLetters() {
        codesAt(1, ";");
        codesAt(5, ";");
        codesAt(9, ";");
        codesAt(2, "sct");
        codesAt(6, "sct");
        codesAt(10, "sct");
    }

    private static void losesDigits() {
        codesAt(3, "012345");
        codesAt(7, "012345");
        codesAt(11, "012345");
        SilkWord x = Due.streetOf("n;s00;s10;s20;s30;s40;s50");
        DUE.row("LOSES", p -> x.ofPerson(p, 1), 0, 1, 2, 3, 4, 5);
    }

    private static void earDigits() {
        codesAt(4, "0123456");
        codesAt(8, "0123456");
        codesAt(12, "0123456");
        SilkWord x = Due.streetOf("n;s00;s01;s02;s03;s04;s05;s06");
        DUE.row("EAR", p -> x.ofPerson(p, 2), 0, 1, 2, 3, 4, 5, 6);
    }

    private static void firstFault() {
        DUE.is("the first of several", Due.take(new SilkWord(), "n;sx9:s11"), -103);
        DUE.is("a fault at 0", Due.take(new SilkWord(), "x"), -100);
        DUE.is("a fault ahead of an end too soon", Due.take(new SilkWord(), "n;x"), -102);
        SilkWord x = new SilkWord();
        Due.write(x, 1, 1, "nnn;s11;x");
        DUE.is("from where the TEXT begins on", x.street(1, 1, 2, 7), -106);
        DUE.is("from where it begins on, its first code", x.street(1, 1, 3, 6), -100);
        DUE.is("from where it begins on, its end", x.street(1, 1, 2, 6), -106);
        DUE.is("a code behind the TEXT", Due.take(new SilkWord(), "n;s11;s11s"), -109);
    }

    private static void anEighthPerson() {
        DUE.is("the ; alone", Due.take(new SilkWord(), CHAIN + ";"), -129);
        DUE.is("all of it", Due.take(new SilkWord(), CHAIN + ";s11"), -129);
        DUE.is("another code there", Due.take(new SilkWord(), CHAIN + "n"), -129);
        DUE.is("60 codes", Due.take(new SilkWord(), (CHAIN + CHAIN + "n;").substring(0, 60)), -129);
        DUE.is("without it", Due.take(new SilkWord(), CHAIN), 7);
    }

    private static void endsTooSoon() {
        for (int n = 0; n <= CHAIN.length(); n++) {
            boolean whole = n >= 9 && n % 4 == 1;
            DUE.is(n + " codes", Due.take(new SilkWord(), CHAIN.substring(0, n)), whole ? n / 4 : -100 - n);
        }
        SilkWord x = new SilkWord();
        Due.write(x, 0, 0, CHAIN);
        DUE.is("codes behind the end of the TEXT do not count", x.street(0, 0, 0, 9), 2);
        DUE.is("no codes at all", x.street(0, 0, 29, 0), -100);
    }

    private static void codes() {
        int[] row = {110, 59, 115, 48, 48, 59, 99, 53, 54, 59, 116, 49, 50};
        for (int lane = 0; lane < 3; lane++) {
            SilkWord x = new SilkWord();
            x.sheet(0, lane, row.length);
            for (int i = 0; i < row.length; i++) {
                x.put(0, i, row[i]);
            }
            DUE.is("street in LANE " + lane, x.street(0, lane, 0, row.length), 3);
            DUE.row("kind", p -> x.ofPerson(p, 0), 0, 1, 2);
            DUE.row("LOSES", p -> x.ofPerson(p, 1), 0, 5, 1);
            DUE.row("EAR", p -> x.ofPerson(p, 2), 0, 6, 2);
        }
    }

    private static void kind(int number, long... as) {
        SilkWord x = Due.streetOf(THREE);
        DUE.is("its number", x.ofPerson(number, 0), number);
        DUE.row("taken as", kind -> x.as(number, kind), as);
    }

    private static SilkWord anew() {
        SilkWord x = Given.full();
        x.bribe(0, true);
        x.bribe(1, true);
        x.bribe(2, true);
        DUE.is("a new STREET", Due.take(x, "n;s10;s10;s10;s10"), 4);
        return x;
    }

    private static void noWords() {
        SilkWord x = anew();
        DUE.is("many(1)", x.many(1), 0);
        DUE.all("no WORD", -1, x.worth(0), x.worth(5));
        DUE.is("unsay(1)", x.unsay(1), -2);
        DUE.is("nothing is HELD", x.heard(0, 39, 1), 0);
        DUE.row("WORDS are numbered from 0 on", k -> x.word(0, 0), 0, 1, 2, 3, 4, 5, -4);
    }

    private static void nobodyBribed() {
        SilkWord x = anew();
        DUE.row("BRIBED", p -> x.ofPerson(p, 4), 0, 0, 0, 0);
        x.word(3, 0);
        DUE.is("the one that was BRIBED says it", x.says(3), 0);
    }

    private static void noWhispers() {
        SilkWord x = anew();
        DUE.is("many(2)", x.many(2), 0);
        DUE.is("forget(1)", x.forget(1), -2);
        DUE.row("nothing is HELD", p -> x.heard(p, 39, 1), 0, 0, 0, 0);
        DUE.row("WHISPERS are numbered from 0 on", k -> x.whisper(0, 1), 0, 1, 2, 3, 4, 5, -4);
    }

    private static void noReadings() {
        SilkWord x = anew();
        DUE.is("many(3)", x.many(3), 0);
        DUE.is("back(1)", x.back(1), -2);
        DUE.is("every one fits", x.paid(), 15);
        DUE.row("READINGS are numbered from 0 on", k -> x.reading(0, 0, true), 0, 1, 2, 3, 4, 5, 6, 7, -4);
    }

    private static void dares(char letter, long... due) {
        StringBuilder text = new StringBuilder("n");
        for (int loses = 0; loses < 6; loses++) {
            text.append(';').append(letter).append(loses).append(loses % 2 == 0 ? 0 : 6);
        }
        SilkWord x = Due.streetOf(text.toString());
        DUE.row("DARES", p -> x.ofPerson(p, 3), due);
    }

    // ---- 2

    private static void days() {
        SilkWord x = Due.streetOf(CHAIN);
        DUE.is("a WORD on DAY 0", x.word(0, 0), 0);
        DUE.is("a WORD on DAY 39", x.word(0, 39), 1);
        DUE.all("a DAY that is none", -2, x.word(0, -1), x.word(0, 40));
        DUE.is("crowd of DAY 0", x.crowd(0), 3);
        DUE.is("crowd of DAY 39", x.crowd(39), 127);
        DUE.is("HELD on DAY 0", x.heard(0, 0, 1), 1);
        DUE.is("HELD on DAY 39", x.heard(0, 39, 1), 4);
        x.unsay(2);
        x.word(0, 39);
        DUE.row("there is no DAY 40", x::says, 39, 39, -9, -9, -9, -9, -9);
        DUE.is("a READING of DAY 0", x.reading(0, 0, false), 0);
        DUE.is("a READING of DAY 39", x.reading(0, 39, true), 1);
        DUE.is("WHERE on DAY 39", x.where(39), 127);
        DUE.is("WHERE on DAY 0", x.where(0), 124);
        DUE.row("ODDS of DAY 39", which -> x.odds(0, 39, which), 1, 2);
        DUE.row("ODDS of DAY 0", which -> x.odds(0, 0, which), 0, 1);
    }

    private static void sixWords() {
        SilkWord x = Due.streetOf("n;t50;t50");
        DUE.row("word", k -> x.word(k % 2, 39 - k), 0, 1, 2, 3, 4, 5, -4, -4);
        DUE.is("many(1)", x.many(1), 6);
        DUE.is("HELD of three of them", x.heard(0, 39, 1), 3);
    }

    private static void numbersOfWords() {
        SilkWord x = Due.streetOf("n;s10;s10;s10");
        DUE.is("the first", x.word(0, 0), 0);
        DUE.is("the second", x.word(1, 0), 1);
        DUE.is("one is unsaid", x.unsay(1), 1);
        DUE.is("the second again", x.word(2, 0), 1);
        DUE.row("who says it", x::says, 0, -9, 0);
        DUE.is("all are unsaid", x.unsay(2), 0);
        DUE.is("the first again", x.word(1, 0), 0);
    }

    private static void aStranger() {
        SilkWord x = Due.streetOf("n;s10;s10;s10");
        x.word(1, 7);
        DUE.row("who says it", x::says, -9, 7, -9);
        DUE.is("the stranger is no PERSON", x.many(0), 3);
        x.bribe(1, true);
        DUE.is("a word at the PLACE of a BRIBED one is HELD by it", x.heard(1, 7, 1), 1);
        DUE.is("the stranger is not in the crowd", x.crowd(39), 0);
    }

    private static void sixWhispers() {
        SilkWord x = Due.streetOf("n;t50;t50;t50");
        DUE.row("whisper", k -> x.whisper(k % 3, (k + 1) % 3), 0, 1, 2, 3, 4, 5, -4, -4);
        DUE.is("many(2)", x.many(2), 6);
        DUE.row("HELD", p -> x.heard(p, 0, 1), 4, 4, 4);
    }

    private static void numbersOfWhispers() {
        SilkWord x = Due.streetOf("n;s10;s10;s10");
        DUE.is("the first", x.whisper(0, 1), 0);
        DUE.is("the second", x.whisper(1, 2), 1);
        DUE.is("one is forgotten", x.forget(1), 1);
        DUE.is("the second again", x.whisper(1, 0), 1);
        DUE.row("HELD", p -> x.heard(p, 0, 1), 2, 2, 0);
        DUE.is("all are forgotten", x.forget(2), 0);
        DUE.is("the first again", x.whisper(2, 0), 0);
    }

    private static void forEver() {
        SilkWord x = Due.streetOf("n;t50;t50;t50");
        x.whisper(2, 0);
        for (int day = 0; day < 40; day++) {
            int on = day;
            DUE.row("HELD on DAY " + day, p -> x.heard(p, on, 1), 1, 0, 1);
        }
        SilkWord y = Due.streetOf("n;s10;s10");
        y.whisper(0, 1);
        DUE.row("from DAY 0 on, both", y::says, 0, 0);
        y.bribe(0, true);
        DUE.row("a BRIBED one is in it still", y::says, -9, 0);
    }

    /** Seven that say it on day 0, but for the one that listens, of an ear. */
    private static SilkWord listening(int place, int ear) {
        StringBuilder text = new StringBuilder("n");
        for (int p = 0; p < 7; p++) {
            text.append(p == place ? ";t5" + ear : ";s00");
        }
        return Due.streetOf(text.toString());
    }

    private static int within(int place, int ear) {
        int set = 0;
        for (int q = Math.max(0, place - ear); q <= Math.min(6, place + ear); q++) {
            set |= 1 << q;
        }
        return set;
    }

    private static void personsInEar() {
        for (int place = 0; place < 7; place++) {
            for (int ear = 0; ear < 7; ear++) {
                SilkWord x = listening(place, ear);
                int due = within(place, ear) & ~(1 << place);
                DUE.is("HEARD at " + place + " by an EAR of " + ear, x.heard(place, 1, 0), due);
                DUE.is("HELD at " + place + " by an EAR of " + ear, x.heard(place, 1, 1), Integer.bitCount(due));
            }
        }
        SilkWord x = Due.streetOf("n;s00;s00");
        DUE.row("one HEARS itself", p -> x.heard(p, 1, 0), 1, 2);
    }

    private static void onADayAhead() {
        SilkWord x = Due.streetOf(CHAIN);
        x.word(0, 5);
        DUE.row("who was HEARD by 1", k -> x.heard(1, 4 + k, 0), 0, 0, 3, 7, 7);
        DUE.row("who was HEARD by 3, of DAY 8", k -> x.heard(3, 7 + k, 0), 4, 12, 28);
        DUE.is("nobody on DAY 0", Due.streetOf("n;s06;s06").heard(0, 0, 0), 0);
        SilkWord last = Due.streetOf("n;s10;s10");
        last.word(0, 39);
        DUE.is("who says it on DAY 39 is HEARD on none", last.heard(0, 39, 0), 0);
    }

    private static void wordsOfThatDay() {
        SilkWord x = Due.streetOf("n;t50;t50");
        x.word(0, 7);
        DUE.row("HELD", k -> x.heard(0, 6 + k, 1), 0, 1, 1);
        DUE.is("HELD on DAY 39", x.heard(0, 39, 1), 1);
        x.word(0, 0);
        x.word(0, 39);
        DUE.is("HELD on DAY 0", x.heard(0, 0, 1), 1);
        DUE.is("HELD on DAY 38", x.heard(0, 38, 1), 2);
        DUE.is("HELD on DAY 39", x.heard(0, 39, 1), 3);
        DUE.is("WORDS are no PERSONS", x.heard(0, 39, 0), 0);
    }

    private static void wordsInEar() {
        for (int ear = 0; ear < 7; ear++) {
            for (int place = 0; place < 7; place++) {
                SilkWord x = Due.streetOf(DEAF.replace("t50", "t5" + ear));
                x.word(place, 0);
                int at = place;
                int hears = within(place, ear);
                for (int p = 0; p < 7; p++) {
                    DUE.is("HELD at " + p + " of a WORD at " + at + " by an EAR of " + ear, x.heard(p, 0, 1), hears >> p & 1);
                }
            }
        }
    }

    private static void held() {
        SilkWord x = Due.streetOf("n;s00;t56;s00;t50");
        DUE.is("nothing", x.heard(1, 0, 1), 0);
        x.word(1, 0);
        x.word(1, 0);
        DUE.is("WORDS alike count each", x.heard(1, 0, 1), 2);
        x.whisper(1, 3);
        x.whisper(3, 1);
        DUE.is("and WHISPERS alike", x.heard(1, 0, 1), 4);
        DUE.is("and PERSONS", x.heard(1, 1, 1), 6);
        DUE.is("WHISPERS alone", x.heard(3, 39, 1), 2);
        x.whisper(0, 2);
        DUE.is("not those of others", x.heard(1, 1, 1), 6);
        DUE.is("itself, too, and what is HELD behind it", x.heard(0, 1, 1), 2);
    }

    private static void saidOnce() {
        SilkWord x = Due.streetOf("n;s00;s11;t50");
        x.word(0, 5);
        x.word(1, 6);
        DUE.row("the first DAY alone", x::says, 0, 1, -9);
        DUE.row("nobody says it twice: who was HEARD", day -> x.heard(0, day, 0), 0, 1, 1, 1, 1, 1, 1, 1);
        DUE.is("crowd(39)", x.crowd(39), 3);
    }

    private static void notBribed() {
        SilkWord x = Due.streetOf("n;s00;s00;s16");
        x.bribe(0, true);
        x.word(0, 0);
        DUE.row("says", x::says, -9, 0, 0);
        DUE.is("crowd(39)", x.crowd(39), 6);
        DUE.is("it is not HEARD", x.heard(2, 39, 0), 6);
        DUE.is("it HEARS", x.heard(0, 39, 1), 1);
        x.bribe(0, false);
        DUE.is("says of one that is BRIBED no more", x.says(0), 0);
    }

    /** The day on which one of a kind says it that holds so much from the beginning. */
    private static int saysHolding(char letter, int loses, int much) {
        SilkWord x = Due.streetOf("n;" + letter + loses + "0;t50");
        for (int k = 0; k < much; k++) {
            DUE.isTrue("the test's own words", k < 6 ? x.word(0, 0) == k : x.whisper(0, 1) == k - 6);
        }
        DUE.is("HELD", x.heard(0, 0, 1), much);
        return x.says(0);
    }

    private static void asMuchAsItDares() {
        for (int loses = 0; loses < 6; loses++) {
            for (char letter : "sct".toCharArray()) {
                int dares = letter == 's' ? loses : letter == 'c' ? loses + 1 : 2 * (loses + 1);
                for (int much = Math.max(0, dares - 2); much <= Math.min(12, dares + 2); much++) {
                    DUE.is(letter + " that LOSES " + loses + " and HOLDS " + much, saysHolding(letter, loses, much),
                            much >= dares ? 0 : -9);
                }
            }
        }
        SilkWord x = Due.streetOf("n;s20;s10");
        x.word(0, 3);
        x.word(0, 39);
        DUE.is("as much on the last DAY", x.says(0), 39);
    }

    private static void allAtOnce() {
        SilkWord up = Due.streetOf("n;s06;s16;s26;s36;s46;s56;c56");
        DUE.row("one a DAY, up the row", up::says, 0, 1, 2, 3, 4, 5, 6);
        SilkWord down = Due.streetOf("n;c56;s56;s46;s36;s26;s16;s06");
        DUE.row("one a DAY, down the row", down::says, 6, 5, 4, 3, 2, 1, 0);
        SilkWord two = Due.streetOf("n;s11;s11");
        two.word(1, 4);
        DUE.row("both on the DAY of a WORD", two::says, 4, 4);
        DUE.is("neither HEARD the other on it", two.heard(0, 4, 0), 0);
        DUE.is("both are HEARD on the next one", two.heard(0, 5, 0), 3);
    }
}
