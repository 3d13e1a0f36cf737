/** Promises 19 to 23: reading, back, where, paid, odds. */
public final class SaidTest {
    private static final Due DUE = new Due("SaidTest");
    private static final String FOUR = "n;s11;s11;s11;s11";

    public static void main(String[] args) {
        reading();
        back();
        where();
        whereWithSixWords();
        paid();
        paidOfBribed();
        odds();
        oddsOfMany();
        oddsInPlaceOfBribes();
        oddsRefuses();
        DUE.end();
    }

    private static void reading() {
        SilkWord x = Due.streetOf(FOUR);
        DUE.is("reading(4, 40, true)", x.reading(4, 40, true), -1);
        DUE.is("reading(-1, 0, true)", x.reading(-1, 0, true), -1);
        DUE.is("reading(0, 40, true)", x.reading(0, 40, true), -2);
        DUE.is("reading(0, -1, false)", x.reading(0, -1, false), -2);
        DUE.is("many(3)", x.many(3), 0);
        DUE.row("reading(3, 39, false)", k -> x.reading(3, 39, false), 0, 1, 2, 3, 4, 5, 6, 7, -4);
        DUE.is("reading(4, 0, true) when full", x.reading(4, 0, true), -1);
        DUE.is("reading(0, 40, true) when full", x.reading(0, 40, true), -2);
        DUE.is("many(3)", x.many(3), 8);
    }

    private static void back() {
        SilkWord x = Due.streetOf(FOUR);
        x.word(0, 0);
        x.reading(0, 0, true);
        x.reading(1, 0, false);
        x.reading(2, 0, true);
        DUE.is("back(4)", x.back(4), -2);
        DUE.is("back(-1)", x.back(-1), -2);
        DUE.is("back(0)", x.back(0), 3);
        DUE.is("paid()", x.paid(), 0);
        DUE.is("back(1)", x.back(1), 2);
        DUE.is("paid(): the last one is taken back", x.paid(), 2);
        DUE.is("back(1)", x.back(1), 1);
        DUE.is("paid(): the first one is left", x.paid(), 14);
        DUE.is("many(3)", x.many(3), 1);
        DUE.is("back(2)", x.back(2), -2);
        DUE.is("back(1)", x.back(1), 0);
        DUE.is("paid()", x.paid(), 15);
    }

    private static void where() {
        SilkWord x = Due.streetOf(FOUR);
        DUE.is("where(0) without readings", x.where(0), 15);
        x.reading(2, 3, true);
        DUE.row("where, by who had", x::where, 15, 15, 15, 14, 0);
        x.reading(0, 3, false);
        DUE.row("where, by who had not, too", x::where, 0, 0, 8, 12, 0);
        DUE.is("where(39)", x.where(39), 0);
        DUE.is("where(40)", x.where(40), -2);
        DUE.is("where(-1)", x.where(-1), -2);
        DUE.is("many(1): no word fell", x.many(1), 0);
        DUE.is("where(40) without a street", new SilkWord().where(40), -2);
        DUE.is("where(39) without a street", new SilkWord().where(39), -3);
        SilkWord late = Due.streetOf(FOUR);
        late.reading(3, 39, true);
        DUE.row("where, on the last days", k -> late.where(37 + k), 15, 14, 12);
    }

    private static void whereWithSixWords() {
        SilkWord x = Due.streetOf(FOUR);
        for (int k = 0; k < 6; k++) {
            x.word(0, 39);
        }
        x.reading(2, 3, true);
        x.reading(0, 3, false);
        DUE.row("where, beside six words", x::where, 0, 0, 8, 12, 0);
        DUE.is("many(1)", x.many(1), 6);
    }

    private static void paid() {
        SilkWord x = Due.streetOf(FOUR);
        x.word(0, 0);
        DUE.is("paid() without readings", x.paid(), 15);
        x.reading(3, 39, false);
        DUE.is("paid(), one had not", x.paid(), 14);
        x.reading(1, 0, true);
        DUE.is("paid(), one had", x.paid(), 12);
        x.reading(2, 1, true);
        DUE.is("paid(), another had", x.paid(), 8);
        x.reading(2, 0, false);
        DUE.is("paid(), not a day earlier", x.paid(), 8);
        x.reading(2, 1, false);
        DUE.is("paid(), unlike readings", x.paid(), 0);
        DUE.row("bribed: nobody was", p -> x.ofPerson(p, 4), 0, 0, 0, 0);
        DUE.is("paid() without a street", new SilkWord().paid(), -3);
    }

    private static void paidOfBribed() {
        SilkWord x = Due.streetOf(FOUR);
        x.word(0, 0);
        x.bribe(2, true);
        x.reading(3, 39, false);
        DUE.is("paid(), one is bribed", x.paid(), 15);
        x.reading(1, 0, true);
        DUE.is("paid(), of both", x.paid(), 13);
        x.reading(0, 5, true);
        DUE.is("paid(), the bribed one is among them", x.paid(), 12);
    }

    private static void odds() {
        SilkWord x = Due.streetOf("n;s00;s11;s52");
        odds(x, 0, 0, 1, 2);
        odds(x, 0, 39, 1, 2);
        odds(x, 1, 0, 0, 1);
        odds(x, 1, 1, 1, 4);
        odds(x, 1, 39, 1, 4);
        odds(x, 2, 39, 0, 1);
        SilkWord y = Due.streetOf("n;s00;s16;s00;s00");
        odds(y, 1, 1, 7, 16);
        SilkWord z = Due.streetOf("n;s10;s10");
        z.word(0, 7);
        odds(z, 0, 6, 0, 1);
        odds(z, 0, 7, 1, 2);
        z.whisper(0, 1);
        odds(z, 1, 0, 1, 2);
    }

    private static void oddsOfMany() {
        SilkWord x = Due.streetOf("n;s00;s11;s11;s11;s11;s11;s11");
        odds(x, 6, 5, 0, 1);
        odds(x, 6, 6, 1, 128);
        odds(x, 5, 39, 1, 64);
        SilkWord y = Due.streetOf("n;s00;s00;s00;s16;s00;s00;s00");
        odds(y, 3, 0, 0, 1);
        odds(y, 3, 1, 63, 128);
    }

    private static void oddsInPlaceOfBribes() {
        SilkWord x = Due.streetOf("n;s00;s11");
        x.bribe(0, true);
        odds(x, 0, 0, 1, 2);
        odds(x, 1, 1, 1, 4);
        DUE.row("bribed as ahead of it", p -> x.ofPerson(p, 4), 1, 0);
        DUE.is("says(0)", x.says(0), -9);
    }

    private static void oddsRefuses() {
        SilkWord x = Due.streetOf("n;s00;s11");
        x.put(0, 0, 0);
        long[] lost = {x.odds(2, 0, 0), x.odds(-1, 0, 0), x.odds(0, 40, 0), x.odds(0, -1, 0), x.odds(0, 0, 2), x.odds(0, 0, -1)};
        DUE.row("odds refused", k -> lost[k], SilkWord.LOST, SilkWord.LOST, SilkWord.LOST, SilkWord.LOST, SilkWord.LOST, SilkWord.LOST);
        DUE.is("fault() is not of odds", x.fault(), 1);
    }

    private static void odds(SilkWord x, int p, int day, long upper, long lower) {
        DUE.is("odds(" + p + ", " + day + ", 0)", x.odds(p, day, 0), upper);
        DUE.is("odds(" + p + ", " + day + ", 1)", x.odds(p, day, 1), lower);
    }
}
