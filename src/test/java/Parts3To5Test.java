/** What the document's parts 3 to 5 say, sentence by sentence: silence, words, bribes; what was said; sheets, parts. */
public final class Parts3To5Test {
    private static final Due DUE = new Due("Parts3To5Test");
    private static final Sentences DOC = new Sentences(DUE);
    private static final String CHAIN = "n;s11;s11;s11;s11;s11;s11;s11";

    public static void main(String[] args) {
        DOC.section("==== 3 ", "==== 4 ");
        silenceAndFewest();
        bribesWhispersWorth();
        peopleAsked();
        DOC.section("==== 4 ", "==== 5 ");
        whatWasSaid();
        DOC.section("==== 5 ", "Ahead of the calls");
        sheetsAndParts();
        DOC.end();
    }

    private static void silenceAndFewest() {
        DOC.says("SILENCE holds, if nobody SAYS it on any DAY", Parts3To5Test::silence);
        DOC.says("NOTICED: the first DAY as which ends half of all PERSONS (or more) have said it", Parts3To5Test::noticed);
        DOC.says("FEWEST: the fewest WORDS more (also where there are 6)", Parts3To5Test::moreThanSixWords);
        DOC.says("on DAY 0", Parts3To5Test::wordsOnDayZero);
        DOC.says("each at a PLACE of its own", Parts3To5Test::placesOfTheirOwn);
        DOC.says("by which all SAY it that are not BRIBED", Parts3To5Test::allButTheBribed);
        DOC.says("as a set of PLACES: of several the least", Parts3To5Test::leastPlaces);
        DOC.says("NONE: not by all", Parts3To5Test::notByAllPlaces);
    }

    private static void bribesWhispersWorth() {
        DOC.says("BRIBE for a PERSON: the fewest PERSONS to be BRIBED (more than are) so that it never SAYS it",
                Parts3To5Test::fewestBribes);
        DOC.says("itself not among them", Parts3To5Test::itselfNotBribed);
        DOC.says("as a set: of several the least", Parts3To5Test::leastBribes);
        DOC.says("NONE: not by all others", Parts3To5Test::notByAllOthers);
        DOC.says("WHISPER: the one more (also where there are 6)", Parts3To5Test::moreThanSixWhispers);
        DOC.says("by which the most SAY it", Parts3To5Test::theMostSayIt);
        DOC.says("more than now", Parts3To5Test::moreThanNow);
        DOC.says("of several the least pair a, b (a below b)", Parts3To5Test::leastPair);
        DOC.says("WORTH of a WORD: how many fewer SAY it without it (others as they are)", Parts3To5Test::worth);
    }

    private static void peopleAsked() {
        DOC.says("ASKED: PERSONS one behind another, from the beginning", Parts3To5Test::oneBehindAnother);
        DOC.says("with WORDS of DAY 0, WHISPERS", Parts3To5Test::wordsOfDayZero);
        DOC.says("each SAYS it, if those who said it ahead of it in the row and are no further than its EAR",
                Parts3To5Test::aheadInTheRow);
        DOC.says("such WORDS", Parts3To5Test::askedWithinAnEar);
        DOC.says("and its WHISPERS are as many as it DARES, or more", Parts3To5Test::askedAsManyAsItDares);
        DOC.says("(and it is not BRIBED)", Parts3To5Test::askedBribed);
    }

    private static void whatWasSaid() {
        DOC.says("READINGS, 8 at most", Parts3To5Test::eightReadings);
        DOC.says("numbered by how many there are", Parts3To5Test::numbersOfReadings);
        DOC.says("as a DAY ended one had said it, or had not", Parts3To5Test::asADayEnded);
        DOC.says("WHERE on a DAY: PLACES such that one WORD more there (also where there are 6)", Parts3To5Test::whereOneMore);
        DOC.says("on that DAY", Parts3To5Test::whereOnThatDay);
        DOC.says("makes all READINGS so, as a set", Parts3To5Test::whereAllReadings);
        DOC.says("PAID: PERSONS such that, were they BRIBED, too (each alone)", Parts3To5Test::paidEachAlone);
        DOC.says("all READINGS are so, as a set", Parts3To5Test::paidAllReadings);
        DOC.says("ODDS: if each PERSON is BRIBED, or not (in place of what it is), all such sets alike",
                Parts3To5Test::oddsInPlaceOfWhatIs);
        DOC.says("the share of those by which one SAYS it by the end of a DAY", Parts3To5Test::oddsByTheEndOfADay);
    }

    private static void sheetsAndParts() {
        DOC.says("SHEETS 0 .. 3 have nothing (at first)", Parts3To5Test::nothingAtFirst);
        DOC.says("or a row of 0 .. 60 numbers", Parts3To5Test::howManyNumbers);
        DOC.says("(0 at first)", Parts3To5Test::zeroAtFirst);
        DOC.says("of a LANE: 0 bytes, 1 shorts, 2 ints", Parts3To5Test::lanes);
        DOC.says("what comes to a cell of it is cut to its LANE", Parts3To5Test::cutToItsLane);
        DOC.says("TELLING of PERSONS by bodies that leave their number in TRACE "
                + "(an int that wraps, 0 at first, becomes 31 times it and the number)", Parts3To5Test::traceWraps);
        DOC.says("as they begin", Parts3To5Test::asTheyBegin);
        DOC.says("SUBJECT (1): what it LOSES", () -> told('s', 0, 1, 2, 3, 4, 5));
        DOC.says("COURTIER (2): what SUBJECT's gives, and 100", () -> told('c', 100, 101, 102, 103, 104, 105));
        DOC.says("TAILOR (3): what COURTIER's gives, and what SUBJECT's gives (COURTIER's left out)",
                () -> told('t', 100, 102, 104, 106, 108, 110));
        DOC.says("BOWED to by a lent body (4): its number", Parts3To5Test::lentBody);
        DOC.says("TAILORS have their own (5): 90", Parts3To5Test::ownBody);
    }

    private static SilkWord with(String text, Given.Call... calls) {
        SilkWord x = Due.streetOf(text);
        for (Given.Call call : calls) {
            call.on(x);
        }
        return x;
    }

    // ---- 3

    private static void silence() {
        DUE.is("nobody", Due.streetOf("n;s10;c00").silence(), 1);
        DUE.is("one on DAY 0", Due.streetOf("n;s50;s00").silence(), 0);
        DUE.is("one on DAY 39", with("n;s10;c00", x -> x.word(1, 39)).silence(), 0);
        DUE.is("a WORD alone", with("n;s20;c50", x -> x.word(0, 0)).silence(), 1);
        DUE.is("one that is BRIBED", with("n;s00;s50", x -> x.bribe(0, true)).silence(), 1);
        DUE.is("all are BRIBED", with("n;s00;s00", x -> x.bribe(0, true), x -> x.bribe(1, true)).silence(), 1);
    }

    private static void noticed() {
        for (int persons = 2; persons <= 7; persons++) {
            for (int saying = 0; saying <= persons; saying++) {
                SilkWord x = Due.streetOf("n" + ";s00".repeat(saying) + ";t50".repeat(persons - saying));
                DUE.is(saying + " of " + persons, x.noticed(), 2 * saying >= persons ? 0 : -9);
            }
        }
        DUE.is("the first such DAY", with(CHAIN, x -> x.word(0, 3)).noticed(), 5);
        DUE.is("DAY 39", with(CHAIN, x -> x.word(0, 37)).noticed(), 39);
        DUE.is("a DAY too late", with(CHAIN, x -> x.word(0, 38)).noticed(), -9);
        DUE.is("BRIBED ones are PERSONS", with("n;s00;s50;s50", x -> x.bribe(1, true), x -> x.bribe(2, true)).noticed(), -9);
    }

    private static void moreThanSixWords() {
        SilkWord x = with("n;t36;t36", y -> y.word(0, 39), y -> y.word(0, 0), y -> y.word(0, 0), y -> y.word(1, 0),
                y -> y.word(1, 0), y -> y.word(1, 9));
        DUE.is("a seventh is refused", x.word(0, 0), -4);
        DUE.is("two more than 6", x.fewest(), 3);
        DUE.is("many(1)", x.many(1), 6);
        SilkWord all = Due.streetOf("n;t20;t20;t20;t20;t20;t20;t20");
        for (int place = 0; place < 6; place++) {
            all.word(place, 0);
        }
        DUE.is("seven more than 6 are too few", all.fewest(), -9);
        SilkWord seven = Due.streetOf("n;s20;s20;s20;s20;s20;s20;s10");
        for (int place = 0; place < 6; place++) {
            seven.word(place, 0);
        }
        DUE.is("seven more than 6", seven.fewest(), 127);
        DUE.is("none more", Due.streetOf("n;s00;s16").fewest(), 0);
        DUE.is("one is fewer than two at lesser PLACES", Due.streetOf("n;s10;s11;s12").fewest(), 1);
        DUE.is("one at the end is fewer than two ahead of it", Due.streetOf("n;s12;s32;s33;s11").fewest(), 4);
    }

    private static void wordsOnDayZero() {
        DUE.is("DAYS enough for all", Due.streetOf(CHAIN).fewest(), 1);
        DUE.is("ahead of a WORD of DAY 39", with("n;s21;s11;s11;s11", x -> x.word(0, 39)).fewest(), 1);
        DUE.is("a WORD of DAY 39 reaches no further", with("n;s10;s10;s11;s11", x -> x.word(0, 39)).fewest(), 2);
    }

    private static void placesOfTheirOwn() {
        DUE.is("two would have to be at one PLACE", Due.streetOf("n;s20;s00").fewest(), -9);
        DUE.is("one is there", with("n;s20;s00", x -> x.word(0, 0)).fewest(), 1);
        DUE.is("two at two PLACES", Due.streetOf("n;s21;s21").fewest(), 3);
        DUE.is("three at three PLACES", Due.streetOf("n;s50;s32;s50;s50;s50").fewest(), -9);
        DUE.is("as many as there are PLACES", Due.streetOf("n;s36;s36;s36").fewest(), 7);
        DUE.is("more than there are PLACES", Due.streetOf("n;s46;s46;s46").fewest(), -9);
    }

    private static void allButTheBribed() {
        DUE.is("one that never would, not BRIBED", Due.streetOf("n;t50;s10").fewest(), -9);
        DUE.is("one that never would, BRIBED", with("n;t50;s10", x -> x.bribe(0, true)).fewest(), 2);
        DUE.is("all are BRIBED", with("n;t50;s10", x -> x.bribe(0, true), x -> x.bribe(1, true)).fewest(), 0);
        DUE.is("a BRIBED one hands on nothing", with("n;s11;s11;s11", x -> x.bribe(1, true)).fewest(), 2);
        DUE.is("not at the end: PLACES on both sides", with("n;s10;s11;s10", x -> x.bribe(1, true)).fewest(), 5);
    }

    private static void leastPlaces() {
        DUE.is("one of seven", Due.streetOf(CHAIN).fewest(), 1);
        DUE.is("one of two", Due.streetOf("n;s10;s11;s11").fewest(), 1);
        DUE.is("two: the lesser set, not the first one's", Due.streetOf("n;s26;s26;s26").fewest(), 3);
        DUE.is("the last PLACE alone", Due.streetOf("n;s11;s11;s11;s11;s11;s11;s10").fewest(), 64);
    }

    private static void notByAllPlaces() {
        DUE.is("not by all", Due.streetOf("n;t50;s00").fewest(), -9);
        DUE.is("by all", Due.streetOf("n;s10;s10;s10;s10;s10;s10;s10").fewest(), 127);
        DUE.is("one too few by all", Due.streetOf("n;s20;s10;s10;s10;s10;s10;s10").fewest(), -9);
    }

    private static void fewestBribes() {
        SilkWord x = with(CHAIN, y -> y.word(0, 0));
        DUE.row("one between", x::bribes, -9, -9, 2, 2, 2, 2, 2);
        x.bribe(1, true);
        DUE.row("no more than are", x::bribes, -9, 0, 0, 0, 0, 0, 0);
        x.bribe(1, false);
        x.bribe(6, true);
        DUE.row("more than are: those that are do not count", x::bribes, -9, -9, 2, 2, 2, 2, 0);
        DUE.row("none in SILENCE", Due.streetOf(CHAIN)::bribes, 0, 0, 0, 0, 0, 0, 0);
        DUE.is("six", Due.streetOf("n;s00;s00;s00;s00;s00;s00;s16").bribes(6), 63);
        DUE.is("one is fewer than two of a lesser set", Due.streetOf("n;s11;s11;s12;s01;s11").bribes(0), 2);
        DUE.is("one with a greater number is fewer", Due.streetOf("n;s15;s11;s11;s11;s11;s00").bribes(0), 32);
    }

    private static void itselfNotBribed() {
        DUE.is("it alone would do", Due.streetOf("n;s00;s50").bribes(0), -9);
        DUE.is("others, though it would be fewer", Due.streetOf("n;s00;s00;s16").bribes(2), 3);
        DUE.is("it is BRIBED", with("n;s00;s50", x -> x.bribe(0, true)).bribes(0), 0);
        DUE.is("BRIBED with others", with("n;s00;s00", x -> x.bribe(0, true), x -> x.bribe(1, true)).bribes(1), 0);
    }

    private static void leastBribes() {
        DUE.is("two of three", Due.streetOf("n;s00;s00;s00;s26").bribes(3), 3);
        DUE.is("one of two on the way", with(CHAIN, x -> x.word(0, 0)).bribes(6), 2);
        DUE.is("two of three, itself between", Due.streetOf("n;s00;s26;s00;s00").bribes(1), 5);
    }

    private static void notByAllOthers() {
        DUE.is("it DARES 0", Due.streetOf("n;s00;s00;s00").bribes(1), -9);
        DUE.is("a WORD in its EAR", with("n;s11;s11", x -> x.word(1, 39)).bribes(0), -9);
        DUE.is("a WHISPER", with("n;s10;s10", x -> x.whisper(0, 1)).bribes(0), -9);
        DUE.is("all others together do", Due.streetOf("n;s00;s16;s00").bribes(1), 5);
        DUE.is("no such PERSON is not NONE", Due.streetOf("n;s00;s16;s00").bribes(3), -1);
    }

    private static void moreThanSixWhispers() {
        SilkWord x = Due.streetOf("n;t20;s10;s10;t50");
        for (int k = 0; k < 5; k++) {
            x.whisper(0, 3);
        }
        x.whisper(1, 3);
        DUE.is("a seventh is refused", x.whisper(0, 2), -4);
        DUE.row("a seventh", x::whispers, 2, 3, -2);
        DUE.is("many(2)", x.many(2), 6);
        DUE.row("says: it was not whispered", x::says, -9, 0, -9, -9);
        SilkWord most = Due.streetOf("n;t20;t20");
        for (int k = 0; k < 5; k++) {
            most.whisper(0, 1);
        }
        DUE.row("a sixth", most::whispers, 1, 2);
    }

    private static void theMostSayIt() {
        DUE.row("not the first", Due.streetOf("n;s10;s50;s50;s11;s11;s11;s20")::whispers, 3, 4);
        DUE.row("the last pair", Due.streetOf("n;s50;s50;s50;s50;s50;s10;s10")::whispers, 56, 2);
        DUE.row("those that hear it later, too", Due.streetOf("n;s50;s10;s11;s11;s11")::whispers, 1, 4);
    }

    private static void moreThanNow() {
        DUE.row("all SAY it now", Due.streetOf("n;s00;s00;s00")::whispers, -9, 3);
        DUE.row("none DARES", Due.streetOf("n;s20;s20")::whispers, -9, 0);
        DUE.row("one more than now", Due.streetOf("n;s00;s20;s10")::whispers, 2, 2);
        DUE.row("one that SAYS it now", Due.streetOf("n;s00;s50")::whispers, -9, 1);
        DUE.row("BRIBED ones", with("n;s10;s10", x -> x.bribe(0, true), x -> x.bribe(1, true))::whispers, -9, 0);
        DUE.row("sooner is not more", with("n;s10;s10", x -> x.word(0, 39), x -> x.word(1, 39))::whispers, -9, 2);
    }

    private static void leastPair() {
        DUE.is("0 and 1", Due.streetOf("n;s10;s10;s10").whispers(0), 1);
        DUE.is("0 and 6", Due.streetOf("n;s10;s50;s50;s50;s50;s50;s10").whispers(0), 6);
        DUE.is("1 and 2", Due.streetOf("n;s50;s10;s10;s10").whispers(0), 12);
        DUE.is("the least with 3", Due.streetOf("n;s50;s50;s50;s10").whispers(0), 3);
        DUE.is("the least with 0", Due.streetOf("n;s10;s50;s50;s50").whispers(0), 1);
    }

    private static void worth() {
        SilkWord x = with("n;s10;s10;s12;s11", y -> y.word(0, 0), y -> y.word(1, 39));
        DUE.row("WORTH, the others on their DAYS", x::worth, 102, 101, -1);
        DUE.row("WORTH, the others at their PLACES", with("n;s10;s10;s11", y -> y.word(0, 0), y -> y.word(1, 0))::worth, 101, 102);
        DUE.row("of one of two alike", with("n;s10;s50", y -> y.word(0, 0), y -> y.word(0, 0))::worth, 100, 100);
        DUE.row("of two, both needed", with("n;s20;s50", y -> y.word(0, 0), y -> y.word(0, 9))::worth, 101, 101);
        DUE.row("all of seven", with(CHAIN, y -> y.word(3, 0))::worth, 107);
        DUE.row("later is not fewer", with(CHAIN, y -> y.word(0, 0), y -> y.word(6, 20))::worth, 100, 100);
        DUE.row("none by a WORD in no EAR", with("n;s50;s00", y -> y.word(0, 0))::worth, 100);
        DUE.row("of BRIBED ones", with("n;s10;s10", y -> y.word(0, 0), y -> y.bribe(0, true))::worth, 100);
        SilkWord six = with("n;s30;s30", y -> y.word(0, 0), y -> y.word(1, 1), y -> y.word(0, 2), y -> y.word(1, 3),
                y -> y.word(0, 4), y -> y.word(1, 5));
        DUE.row("of six", six::worth, 101, 101, 101, 101, 101, 101, -1);
        DUE.is("many(1): they all are there still", six.many(1), 6);
    }

    /** What those answer that are asked in an order, from the second cell of a row on. */
    private static int asked(SilkWord x, int... order) {
        x.sheet(0, 2, order.length + 2);
        x.put(0, 0, 99);
        for (int i = 0; i < order.length; i++) {
            x.put(0, i + 1, order[i]);
        }
        x.put(0, order.length + 1, 99);
        return x.asked(0, 2, 1, order.length);
    }

    private static void oneBehindAnother() {
        SilkWord x = Due.streetOf("n;s06;s16;s26;s36");
        DUE.is("nobody", asked(x), 0);
        DUE.is("up", asked(x, 0, 1, 2, 3), 15);
        DUE.is("down", asked(x, 3, 2, 1, 0), 1);
        DUE.is("another order", asked(x, 1, 0, 2, 3), 1);
        DUE.is("one alone", asked(x, 2), 0);
        DUE.is("the first", asked(x, 0), 1);
        DUE.is("not all", asked(x, 0, 1), 3);
        DUE.is("whoever said it on a DAY is not ahead", asked(with("n;s00;s16", y -> y.crowd(0)), 1, 0), 1);
    }

    private static void wordsOfDayZero() {
        DUE.is("DAY 0", asked(with("n;s11;s50", x -> x.word(1, 0)), 0, 1), 1);
        DUE.is("DAY 1", asked(with("n;s11;s50", x -> x.word(1, 1)), 0, 1), 0);
        DUE.is("DAY 39", asked(with("n;s11;s50", x -> x.word(1, 39)), 0, 1), 0);
        DUE.is("a WHISPER, of the first", asked(with("n;s10;s50", x -> x.whisper(0, 1)), 0, 1), 1);
        DUE.is("a WHISPER, of the other", asked(with("n;s50;s10", x -> x.whisper(0, 1)), 0, 1), 2);
        DUE.is("a WHISPER of others", asked(with("n;s50;s50;s10", x -> x.whisper(0, 1)), 0, 1, 2), 0);
    }

    private static void aheadInTheRow() {
        for (int ear = 0; ear < 7; ear++) {
            for (int place = 1; place < 7; place++) {
                SilkWord x = Due.streetOf("n;s00" + (";s1" + ear).repeat(6));
                DUE.is("one at " + place + " with an EAR of " + ear, asked(x, 0, place), place <= ear ? 1 + (1 << place) : 1);
                DUE.is("it, asked first", asked(x, place, 0), 1);
            }
        }
        DUE.is("who did not say it", asked(Due.streetOf("n;s50;s16"), 0, 1), 0);
    }

    private static void askedWithinAnEar() {
        for (int ear = 0; ear < 7; ear++) {
            for (int place = 0; place < 7; place++) {
                int at = place;
                SilkWord x = with("n;s1" + ear + ";s50".repeat(6), y -> y.word(at, 0));
                DUE.is("a WORD at " + place + ", an EAR of " + ear, asked(x, 0), place <= ear ? 1 : 0);
            }
        }
    }

    private static void askedAsManyAsItDares() {
        for (int much = 0; much < 6; much++) {
            int whispers = much / 2;
            SilkWord x = Due.streetOf("n;s30;s50");
            for (int k = 0; k < much; k++) {
                DUE.isTrue("the test's own words", (k < whispers ? x.whisper(1, 0) : x.word(0, 0)) >= 0);
            }
            DUE.is(much + " where 3 are DARED", asked(x, 0), much >= 3 ? 1 : 0);
        }
        SilkWord x = with("n;s00;t06;s00", y -> y.whisper(1, 2), y -> y.word(0, 0));
        DUE.is("of each sort together", asked(x, 1), 2);
        DUE.is("a tailor, one of each too few", asked(with("n;s00;t16;s00", y -> y.whisper(1, 2), y -> y.word(0, 0)), 0, 1), 1);
        DUE.is("a tailor, just enough", asked(with("n;s00;t16;s00", y -> y.whisper(1, 2), y -> y.word(0, 0)), 0, 2, 1), 7);
    }

    private static void askedBribed() {
        SilkWord x = with("n;s06;s16;s16", y -> y.bribe(0, true));
        DUE.is("it does not", asked(x, 0), 0);
        DUE.is("nor those behind it", asked(x, 0, 1, 2), 0);
        x.bribe(0, false);
        DUE.is("BRIBED no more", asked(x, 0, 1, 2), 7);
        x.bribe(1, true);
        DUE.is("others do", asked(x, 0, 1, 2), 5);
    }

    // ---- 4

    private static void eightReadings() {
        SilkWord x = Due.streetOf("n;s00;s00");
        DUE.row("reading", k -> x.reading(k % 2, 39 - k, true), 0, 1, 2, 3, 4, 5, 6, 7, -4, -4);
        DUE.is("many(3)", x.many(3), 8);
        DUE.is("all are so", x.where(0), 3);
        x.back(1);
        x.reading(0, 0, false);
        DUE.is("the eighth counts", x.where(0), 0);
    }

    private static void numbersOfReadings() {
        SilkWord x = Due.streetOf("n;s00;s50");
        DUE.is("the first", x.reading(0, 0, true), 0);
        DUE.is("the second", x.reading(0, 0, true), 1);
        DUE.is("alike ones, and unlike ones, too", x.reading(0, 0, false), 2);
        DUE.is("two are taken back", x.back(2), 1);
        DUE.is("the second again", x.reading(1, 0, false), 1);
        DUE.is("all are taken back", x.back(2), 0);
        DUE.is("the first again", x.reading(1, 0, false), 0);
    }

    /** Whether one reading is so, asked by a word that changes nothing. */
    private static boolean isSo(int p, int day, boolean had) {
        SilkWord x = with("n;s10;s20;t50", y -> y.word(0, 7), y -> y.bribe(1, true));
        x.reading(p, day, had);
        return x.where(39) == 7;
    }

    private static void asADayEnded() {
        DUE.isTrue("had not, the DAY ahead", isSo(0, 6, false));
        DUE.isTrue("had, the DAY ahead", !isSo(0, 6, true));
        DUE.isTrue("had, that DAY", isSo(0, 7, true));
        DUE.isTrue("had not, that DAY", !isSo(0, 7, false));
        DUE.isTrue("had, later", isSo(0, 39, true) && isSo(0, 8, true));
        DUE.isTrue("had not, later", !isSo(0, 39, false) && !isSo(0, 8, false));
        DUE.isTrue("had not, DAY 0", isSo(0, 0, false) && !isSo(0, 0, true));
        DUE.isTrue("one that never does", isSo(2, 39, false) && !isSo(2, 39, true));
        DUE.isTrue("one that is BRIBED", isSo(1, 39, false) && !isSo(1, 39, true));
    }

    private static void whereOneMore() {
        SilkWord x = Due.streetOf("n;s10;s10;t30");
        for (int k = 0; k < 6; k++) {
            x.word(2, 0);
        }
        x.reading(0, 5, true);
        DUE.is("a seventh is refused", x.word(0, 0), -4);
        DUE.is("a seventh", x.where(5), 1);
        DUE.is("many(1)", x.many(1), 6);
        x.back(1);
        x.reading(2, 5, true);
        DUE.is("one too few", x.where(5), 0);
        DUE.is("none may be needed", with("n;s00;s50", y -> y.reading(0, 0, true)).where(39), 3);
        DUE.is("one more may be one too many", with("n;s10;s10", y -> y.reading(0, 39, false)).where(0), 2);
    }

    private static void whereOnThatDay() {
        SilkWord x = with("n;s10;s10", y -> y.reading(0, 7, true), y -> y.reading(0, 6, false));
        DUE.is("the DAY ahead", x.where(6), 0);
        DUE.is("that DAY", x.where(7), 1);
        DUE.is("the next DAY", x.where(8), 0);
        DUE.is("DAY 0", with("n;s10;s10", y -> y.reading(1, 0, true)).where(0), 2);
        DUE.is("DAY 39", with("n;s10;s10", y -> y.reading(1, 38, false), y -> y.reading(1, 39, true)).where(39), 2);
    }

    private static void whereAllReadings() {
        SilkWord x = Due.streetOf(CHAIN);
        DUE.is("no READINGS", x.where(0), 127);
        x.reading(3, 1, true);
        DUE.is("one", x.where(0), 62);
        x.reading(0, 1, false);
        DUE.is("two", x.where(0), 56);
        x.reading(6, 1, false);
        DUE.is("three", x.where(0), 8);
        x.reading(3, 0, false);
        DUE.is("four that cannot be", x.where(0), 0);
    }

    private static void paidEachAlone() {
        SilkWord x = with("n;s00;s00;s16", y -> y.reading(2, 39, false));
        DUE.is("itself alone; two others only together", x.paid(), 4);
        x.bribe(0, true);
        DUE.is("one of them is BRIBED", x.paid(), 6);
        x.bribe(1, true);
        DUE.is("both are BRIBED: no more is needed", x.paid(), 7);
        DUE.row("BRIBED as ahead of it", p -> x.ofPerson(p, 4), 1, 1, 0);
    }

    private static void paidAllReadings() {
        SilkWord x = with(CHAIN, y -> y.word(0, 0));
        DUE.is("no READINGS", x.paid(), 127);
        x.reading(6, 39, false);
        DUE.is("one", x.paid(), 126);
        x.reading(2, 1, true);
        DUE.is("two", x.paid(), 120);
        x.reading(5, 4, true);
        DUE.is("three", x.paid(), 64);
        x.reading(6, 5, true);
        DUE.is("four that cannot be", x.paid(), 0);
    }

    private static void oddsInPlaceOfWhatIs() {
        SilkWord x = Due.streetOf("n;s00;s11");
        for (int set = 0; set < 4; set++) {
            x.bribe(0, (set & 1) != 0);
            x.bribe(1, (set & 2) != 0);
            DUE.row("of 0, whoever is BRIBED", which -> x.odds(0, 39, which), 1, 2);
            DUE.row("of 1, whoever is BRIBED", which -> x.odds(1, 39, which), 1, 4);
        }
        DUE.row("BRIBED as ahead of it", p -> x.ofPerson(p, 4), 1, 1);
        SilkWord all = Due.streetOf("n;s00;s00;s00;s16;s00;s00;s00");
        DUE.row("half of all but one in 64", which -> all.odds(3, 39, which), 63, 128);
    }

    private static void oddsByTheEndOfADay() {
        SilkWord x = with(CHAIN, y -> y.word(0, 33));
        DUE.row("of 6, upper", k -> x.odds(6, 37 + k, 0), 0, 1, 1);
        DUE.row("of 6, lower", k -> x.odds(6, 37 + k, 1), 1, 64, 64);
        DUE.row("of 0, upper", k -> x.odds(0, 32 + k, 0), 0, 1, 1);
        DUE.row("of 0, lower", k -> x.odds(0, 32 + k, 1), 1, 2, 2);
        DUE.row("on DAY 0", which -> Due.streetOf("n;s00;s50").odds(0, 0, which), 1, 2);
    }

    // ---- 5

    private static void nothingAtFirst() {
        SilkWord x = new SilkWord();
        DUE.row("lose", x::lose, 0, 0, 0, 0, -1);
        DUE.row("put", k -> x.put(k, 0, 0), -11, -11, -11, -11, -1);
        DUE.row("sheet", k -> x.sheet(k, 0, 1), 1, 1, 1, 1, -1);
        DUE.row("lose", x::lose, 1, 1, 1, 1, -1);
        DUE.all("no SHEET ahead of 0", -1, x.lose(-1), x.put(-1, 0, 0), x.sheet(-1, 0, 1));
    }

    private static void howManyNumbers() {
        for (int lane = 0; lane < 3; lane++) {
            SilkWord x = new SilkWord();
            DUE.is("none", x.sheet(0, lane, 0), 1);
            DUE.is("no cell 0 of none", x.put(0, 0, 0), -13);
            DUE.is("1", x.sheet(0, lane, 1), 1);
            DUE.is("cell 0 of 1", x.put(0, 0, 0), 1);
            DUE.is("no cell 1 of 1", x.put(0, 1, 0), -13);
            DUE.is("60", x.sheet(0, lane, 60), 1);
            DUE.is("cell 59 of 60", x.put(0, 59, 0), 1);
            DUE.is("no cell 60 of 60", x.put(0, 60, 0), -13);
            DUE.is("61", x.sheet(0, lane, 61), -2);
            DUE.is("-1", x.sheet(0, lane, -1), -14);
        }
    }

    private static void zeroAtFirst() {
        SilkWord x = new SilkWord();
        for (int lane = 0; lane < 3; lane++) {
            int in = lane;
            x.sheet(lane, lane, 60);
            for (int i = 0; i < 60; i++) {
                DUE.is("cell " + i + " of LANE " + lane, x.cell(lane, i, lane), 0);
            }
            x.put(lane, 59, 1);
            x.put(lane, 0, 1);
            x.sheet(lane, lane, 60);
            DUE.row("a new row where one was", k -> x.cell(in, 59 * k, in), 0, 0);
        }
    }

    private static void lanes() {
        SilkWord x = new SilkWord();
        DUE.row("sheet", lane -> x.sheet(0, lane, 1), 1, 1, 1, -2);
        for (int lane = 0; lane < 3; lane++) {
            x.sheet(0, lane, 1);
            x.put(0, 0, 40000);
            DUE.is("cell of LANE " + lane, x.cell(0, 0, lane), lane == 0 ? 64 : lane == 1 ? -25536 : 40000);
            for (int other = 0; other < 3; other++) {
                DUE.isTrue("as LANE " + other, x.cell(0, 0, other) == SilkWord.LOST == (other != lane));
            }
        }
    }

    private static void cutToItsLane() {
        int[] values = {0, -1, 127, 128, -128, -129, 255, 256, 32767, 32768, -32768, -32769, 65535, 65536, Given.MAX, Given.MIN};
        for (int v : values) {
            SilkWord x = Given.rows();
            x.put(0, 3, v);
            x.put(1, 3, v);
            x.put(2, 3, v);
            DUE.is(v + " as a byte", x.cell(0, 3, 0), (byte) v);
            DUE.is(v + " as a short", x.cell(1, 3, 1), (short) v);
            DUE.is(v + " as an int", x.cell(2, 3, 2), v);
            x.copy(0, 3, 0, 0, 1);
            DUE.is(v + " as a byte, copied", x.cell(0, 0, 0), (byte) v);
        }
    }

    private static void traceWraps() {
        SilkWord x = Due.streetOf("n;s30;c40;t50");
        DUE.is("at first", x.trace(), 0);
        int due = 0;
        boolean below = false;
        for (int turn = 0; turn < 30; turn++) {
            x.tell(0);
            due = 31 * due + 1;
            below |= due < 0;
            DUE.is("behind " + turn + " tellings", x.trace(), due);
        }
        DUE.isTrue("it has wrapped", below);
    }

    private static void asTheyBegin() {
        SilkWord x = Due.streetOf("n;s30;c40;t50");
        x.tell(1);
        DUE.is("2, then 1", x.trace(), 2 * 31 + 1);
        SilkWord y = Due.streetOf("n;s30;c40;t50");
        y.tell(2);
        DUE.is("3, then 2, then 1, then 1", y.trace(), ((3 * 31 + 2) * 31 + 1) * 31 + 1);
        SilkWord z = Due.streetOf("n;s30;c40;t50");
        z.tell(0);
        DUE.is("1", z.trace(), 1);
    }

    private static void told(char letter, long... due) {
        StringBuilder text = new StringBuilder("n");
        for (int loses = 0; loses < 6; loses++) {
            text.append(';').append(letter).append(loses).append('3');
        }
        SilkWord x = Due.streetOf(text.toString());
        DUE.row("tell", x::tell, due);
    }

    private static void lentBody() {
        SilkWord x = Due.streetOf("n;s00;c11;s22;c33;s44;c55;s06");
        int due = 0;
        for (int p = 0; p < 7; p++) {
            DUE.is("bow to " + p, x.bow(p), p);
            due = 31 * due + 4;
            DUE.is("TRACE", x.trace(), due);
        }
    }

    private static void ownBody() {
        SilkWord x = Due.streetOf("n;t00;t11;t22;t33;t44;t55;t06");
        int due = 0;
        for (int p = 0; p < 7; p++) {
            DUE.is("bow to " + p, x.bow(p), 90);
            due = 31 * due + 5;
            DUE.is("TRACE", x.trace(), due);
        }
    }
}
