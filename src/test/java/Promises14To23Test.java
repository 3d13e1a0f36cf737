/** Promises 14 to 23, sentence by sentence, each at its edges: words, bribes, whispers, people asked, what was said. */
public final class Promises14To23Test {
    private static final Due DUE = new Due("Promises14To23Test");
    private static final Sentences DOC = new Sentences(DUE);
    private static final int MIN = Given.MIN, MAX = Given.MAX;
    private static final long LOST = SilkWord.LOST;
    private static final String CHAIN = "n;s11;s11;s11;s11;s11;s11;s11";
    private static final String NO_STREET = "STATE: there is no STREET";

    public static void main(String[] args) {
        fewest();
        bribes();
        whispers();
        worth();
        asked();
        askedRefuses();
        reading();
        back();
        where();
        paid();
        odds();
        DOC.end();
    }

    private static void fewest() {
        DOC.promise(14, "fewest");
        DOC.says("FEWEST, as a set", () -> {
            DUE.is("none needed", Due.streetOf("n;s00;s11").fewest(), 0);
            DUE.is("the last PLACE", Due.streetOf("n;s11;s11;s11;s11;s11;s11;s10").fewest(), 64);
            DUE.is("all PLACES", Due.streetOf("n;s10;s10;s10;s10;s10;s10;s10").fewest(), 127);
            DUE.is("all PLACES of two", Due.streetOf("n;c00;c00").fewest(), 3);
        });
        DOC.says("NONE", () -> {
            DUE.is("by no WORDS", Due.streetOf("n;s20;s10").fewest(), -9);
            SilkWord x = Due.streetOf("n;s20;s10");
            x.whisper(0, 1);
            DUE.is("a WHISPER helps", x.fewest(), 1);
        });
        DOC.says(NO_STREET, () -> DUE.is("no STREET", new SilkWord().fewest(), -3));
    }

    private static void bribes() {
        DOC.promise(15, "bribes");
        DOC.says("BRIBE, as a set", () -> {
            SilkWord x = Due.streetOf(CHAIN);
            DUE.is("none needed", x.bribes(6), 0);
            x.word(6, 0);
            DUE.is("the one next to the last", x.bribes(0), 2);
            SilkWord y = Due.streetOf("n;s16;s00;s00;s00;s00;s00;s00");
            DUE.is("all others", y.bribes(0), 126);
            y.bribe(6, true);
            DUE.is("all others but one that is BRIBED", y.bribes(0), 62);
        });
        DOC.says("NONE", () -> {
            SilkWord x = Due.streetOf(CHAIN);
            x.word(6, 39);
            DUE.row("bribes", x::bribes, 0, 0, 0, 0, 0, -9, -9, -1);
        });
        DOC.says("UNKNOWN", () -> {
            SilkWord x = Due.streetOf(CHAIN);
            DUE.all("no PERSON", -1, x.bribes(-1), x.bribes(7), x.bribes(MIN), x.bribes(MAX), new SilkWord().bribes(0));
        });
    }

    private static void whispers() {
        DOC.promise(16, "whispers");
        DOC.says("WHISPER: 10 times a, and b (what 0", () -> {
            DUE.is("0 and 1", Due.streetOf("n;s10;s10").whispers(0), 1);
            DUE.is("5 and 6", Due.streetOf("n;s50;s50;s50;s50;s50;s10;s10").whispers(0), 56);
            DUE.is("0 and 6", Due.streetOf("n;s10;s50;s50;s50;s50;s50;s10").whispers(0), 6);
        });
        DOC.says("NONE: by none more do)", () -> {
            DUE.is("all do", Due.streetOf("n;s00;s00").whispers(0), -9);
            DUE.is("none DARES", Due.streetOf("n;s20;s20").whispers(0), -9);
        });
        DOC.says("how many SAY it then (1", () -> {
            DUE.is("two", Due.streetOf("n;s10;s10").whispers(1), 2);
            DUE.is("all of seven", Due.streetOf(CHAIN).whispers(1), 7);
            DUE.is("with those that do now", Due.streetOf("n;s00;s50;s10").whispers(1), 2);
        });
        DOC.says("as now)", () -> {
            DUE.is("all", Due.streetOf("n;s00;s00").whispers(1), 2);
            DUE.is("none", Due.streetOf("n;s20;s20").whispers(1), 0);
            DUE.is("one", Due.streetOf("n;s00;s50").whispers(1), 1);
        });
        DOC.says("OUTSIDE", () -> {
            SilkWord x = Due.streetOf(CHAIN);
            DUE.all("no such what", -2, x.whispers(-1), x.whispers(2), x.whispers(MIN), x.whispers(MAX));
            DUE.all("no such what, no STREET", -2, new SilkWord().whispers(-1), new SilkWord().whispers(2));
        });
        DOC.says(NO_STREET, () -> DUE.row("no STREET", new SilkWord()::whispers, -3, -3));
    }

    private static void worth() {
        DOC.promise(17, "worth");
        DOC.says("WORTH, and 100", () -> {
            SilkWord x = Due.streetOf(CHAIN);
            x.word(0, 0);
            DUE.is("all", x.worth(0), 107);
            x.word(6, 0);
            DUE.row("none", x::worth, 100, 100);
            x.unsay(2);
            x.word(0, 39);
            x.word(6, 39);
            DUE.row("two each", x::worth, 102, 102);
        });
        DOC.says("UNKNOWN: WORD", () -> {
            SilkWord x = Due.streetOf(CHAIN);
            DUE.all("no WORDS", -1, x.worth(0), x.worth(-1));
            DUE.row("six WORDS", k -> x.word(k, 0), 0, 1, 2, 3, 4, 5);
            DUE.row("worth", x::worth, 100, 100, 100, 100, 100, 100, -1, -1);
            DUE.all("no such WORD", -1, x.worth(-1), x.worth(6), x.worth(MIN), x.worth(MAX));
            x.unsay(1);
            DUE.row("one is unsaid", x::worth, 100, 100, 100, 100, 100, -1);
            DUE.is("no STREET", new SilkWord().worth(0), -1);
        });
    }

    /** Sheet 1 has shorts: 0 .. 6, then 7, 0, -1, and zeros up to 30 cells; sheet 3 nothing. */
    private static SilkWord seven() {
        SilkWord x = Due.streetOf("n;s06;s16;s26;s36;s46;s56;c56");
        x.lose(3);
        x.sheet(1, 1, 30);
        int[] row = {0, 1, 2, 3, 4, 5, 6, 7, 0, -1};
        for (int i = 0; i < row.length; i++) {
            x.put(1, i, row[i]);
        }
        return x;
    }

    private static void asked() {
        DOC.promise(18, "asked");
        DOC.says("PERSONS by n such cells, ASKED: who SAYS it, as a set", () -> {
            SilkWord x = seven();
            DUE.row("the first n", n -> x.asked(1, 1, 0, n), 0, 1, 3, 7, 15, 31, 63, 127);
            DUE.row("from another cell on", i -> x.asked(1, 1, i, 1), 1, 0, 0, 0, 0, 0, 0, -1, 1, -1);
            DUE.is("none, at the end", x.asked(1, 1, 30, 0), 0);
            DUE.is("the last cell", x.asked(1, 1, 29, 1), 1);
            DUE.is("fault", x.fault(), 0);
        });
    }

    private static void askedRefuses() {
        DOC.says("UNKNOWN: SHEET", () -> {
            SilkWord x = seven();
            DUE.all("no SHEET", -1, x.asked(-1, 1, 0, 1), x.asked(4, 1, 0, 1), x.asked(MIN, 3, -1, -1), x.asked(MAX, 1, 0, 0),
                    new SilkWord().asked(4, 3, 0, 0));
        });
        DOC.says("OUTSIDE: lane", () -> {
            SilkWord x = seven();
            DUE.all("no LANE", -2, x.asked(1, -1, 0, 1), x.asked(1, 3, 0, 1), x.asked(1, MIN, -1, -1), x.asked(3, MAX, 0, 0),
                    new SilkWord().asked(0, 3, 0, 0));
        });
        DOC.says(NO_STREET, () -> {
            SilkWord x = Given.rows();
            DUE.all("no STREET, ahead of CAST, NULL, SIZE, INDEX, n above 20", -3, x.asked(1, 1, 0, 1), x.asked(1, 0, 0, 1),
                    x.asked(3, 1, 0, 1), x.asked(1, 1, 0, -1), x.asked(1, 1, 0, 5), x.asked(1, 1, 0, 21));
            DUE.is("fault", x.fault(), 0);
        });
        DOC.says("CAST", () -> {
            SilkWord x = seven();
            DUE.all("shorts as others", -12, x.asked(1, 0, 0, 1), x.asked(1, 2, 0, 1), x.asked(1, 0, -1, -1), x.asked(1, 2, 99, 0));
            DUE.is("fault", x.fault(), 2);
        });
        DOC.says("NULL", () -> {
            SilkWord x = seven();
            DUE.all("nothing", -11, x.asked(3, 0, 0, 1), x.asked(3, 1, 0, -1), x.asked(3, 2, -1, 0), x.asked(0, 0, 0, 99));
            DUE.is("fault", x.fault(), 1);
        });
        askedIsOutside();
    }

    private static void askedIsOutside() {
        DOC.says("SIZE", () -> {
            SilkWord x = seven();
            DUE.all("n below 0", -14, x.asked(1, 1, 0, -1), x.asked(1, 1, 0, MIN), x.asked(1, 1, -1, -1), x.asked(1, 1, 99, -1));
            DUE.is("fault", x.fault(), 4);
        });
        DOC.says("INDEX", () -> {
            SilkWord x = seven();
            DUE.all("beyond", -13, x.asked(1, 1, 0, 31), x.asked(1, 1, 30, 1), x.asked(1, 1, 31, 0), x.asked(1, 1, -1, 0),
                    x.asked(1, 1, -1, 2), x.asked(1, 1, 1, MAX), x.asked(1, 1, MAX, 1), x.asked(1, 1, MIN, 1));
            DUE.is("fault", x.fault(), 3);
        });
        DOC.says("OUTSIDE: n above 20", () -> {
            SilkWord x = seven();
            DUE.all("more than 20", -2, x.asked(1, 1, 0, 21), x.asked(1, 1, 9, 21), x.asked(1, 1, 0, 30));
            DUE.is("20", x.asked(1, 1, 10, 20), -1);
            DUE.is("fault", x.fault(), 0);
        });
        DOC.says("UNKNOWN: a PERSON", () -> {
            SilkWord x = seven();
            DUE.all("7, -1", -1, x.asked(1, 1, 7, 1), x.asked(1, 1, 0, 8), x.asked(1, 1, 9, 1), x.asked(1, 1, 8, 2));
            x.put(1, 0, 32767);
            x.put(1, 1, -32768);
            x.put(1, 2, 32);
            DUE.all("far numbers", -1, x.asked(1, 1, 0, 1), x.asked(1, 1, 1, 1), x.asked(1, 1, 2, 1));
            DUE.is("fault", x.fault(), 0);
        });
        DOC.says("(twice: so, too)", () -> {
            SilkWord x = seven();
            DUE.is("0 twice, next to each other", x.asked(1, 1, 10, 2), -1);
            x.put(1, 7, 0);
            DUE.is("0 twice, at both ends", x.asked(1, 1, 0, 8), -1);
            DUE.is("5, 6, 0, 0", x.asked(1, 1, 5, 4), -1);
            DUE.is("5, 6, 0", x.asked(1, 1, 5, 3), 1);
            x.bribe(0, true);
            DUE.is("twice, though it does not say it", x.asked(1, 1, 10, 2), -1);
        });
    }

    private static void reading() {
        DOC.promise(19, "reading");
        DOC.says("A READING: its number", () -> {
            SilkWord x = Due.streetOf(CHAIN);
            DUE.is("the first PERSON, on the first DAY", x.reading(0, 0, false), 0);
            DUE.is("the last PERSON, on the last DAY", x.reading(6, 39, false), 1);
            DUE.is("many", x.many(3), 2);
            DUE.is("so", x.paid(), 127);
            DUE.is("not so, yet taken", x.reading(6, 39, true), 2);
            DUE.is("not so", x.paid(), 0);
        });
        DOC.says("UNKNOWN: PERSON", () -> {
            SilkWord x = Due.streetOf(CHAIN);
            DUE.all("no PERSON", -1, x.reading(-1, 0, true), x.reading(7, 0, false), x.reading(MIN, 40, true),
                    x.reading(MAX, -1, true), new SilkWord().reading(0, 0, true));
            DUE.is("many", x.many(3), 0);
        });
        DOC.says("OUTSIDE: day", () -> {
            SilkWord x = Due.streetOf(CHAIN);
            DUE.all("no DAY", -2, x.reading(0, -1, true), x.reading(6, 40, false), x.reading(0, MIN, true), x.reading(0, MAX, true));
            DUE.is("many", x.many(3), 0);
        });
        DOC.says("FULL", () -> {
            SilkWord x = Due.streetOf(CHAIN);
            DUE.row("reading", k -> x.reading(0, 0, false), 0, 1, 2, 3, 4, 5, 6, 7, -4);
            DUE.is("FULL is told last", x.reading(7, 40, true), -1);
            DUE.is("FULL is told last", x.reading(0, 40, true), -2);
            DUE.is("a ninth", x.reading(0, 0, true), -4);
            DUE.is("a ninth does not count", x.paid(), 127);
        });
    }

    private static void back() {
        DOC.promise(20, "back");
        DOC.says("The last k READINGS (0 .. as many as there are) are taken back: how many are left", () -> {
            SilkWord x = Due.streetOf("n;s00;s10;s10");
            DUE.is("none of none", x.back(0), 0);
            x.reading(0, 0, true);
            x.reading(1, 39, true);
            x.reading(2, 39, true);
            DUE.is("none", x.back(0), 3);
            DUE.is("where", x.where(0), 0);
            DUE.is("the last one", x.back(1), 2);
            DUE.is("where", x.where(0), 2);
            DUE.is("the last two", x.back(2), 0);
            DUE.is("where", x.where(0), 7);
            DUE.is("many", x.many(3), 0);
        });
        DOC.says("OUTSIDE", () -> {
            SilkWord x = Due.streetOf("n;s00;s10;s10");
            DUE.all("of none", -2, x.back(1), x.back(-1));
            x.reading(0, 0, true);
            DUE.all("of one", -2, x.back(2), x.back(-1), x.back(MIN), x.back(MAX));
            DUE.is("many", x.many(3), 1);
            DUE.all("without a STREET", -2, new SilkWord().back(1), new SilkWord().back(-1));
            DUE.is("none, without a STREET", new SilkWord().back(0), 0);
        });
    }

    private static void where() {
        DOC.promise(21, "where");
        DOC.says("WHERE, as a set", () -> {
            SilkWord x = Due.streetOf("n;s10;s10;s10;s10;s10;s10;s10");
            DUE.is("everywhere", x.where(0), 127);
            x.reading(6, 39, true);
            DUE.row("at the last PLACE, on the first DAYS", x::where, 64, 64);
            DUE.is("at the last PLACE, on the last DAY", x.where(39), 64);
            x.reading(6, 38, true);
            DUE.is("nowhere", x.where(39), 0);
        });
        DOC.says("OUTSIDE", () -> {
            SilkWord x = Due.streetOf(CHAIN);
            DUE.all("no DAY", -2, x.where(-1), x.where(40), x.where(MIN), x.where(MAX));
            DUE.all("no DAY, no STREET", -2, new SilkWord().where(-1), new SilkWord().where(40));
        });
        DOC.says(NO_STREET, () -> DUE.all("no STREET", -3, new SilkWord().where(0), new SilkWord().where(39)));
    }

    private static void paid() {
        DOC.promise(22, "paid");
        DOC.says("PAID, as a set", () -> {
            SilkWord x = Due.streetOf("n;s00;s00;s00;s00;s00;s00;s00");
            DUE.is("all", x.paid(), 127);
            x.reading(6, 39, false);
            DUE.is("the last one", x.paid(), 64);
            x.reading(0, 0, false);
            DUE.is("none", x.paid(), 0);
            x.bribe(6, true);
            DUE.is("beside one that is BRIBED", x.paid(), 1);
        });
        DOC.says(NO_STREET, () -> DUE.is("no STREET", new SilkWord().paid(), -3));
    }

    private static void odds() {
        DOC.promise(23, "odds");
        DOC.says("ODDS (which 0 the upper, 1 the lower number)", () -> {
            SilkWord x = Due.streetOf("n;s00;s16;s50");
            DUE.row("never", which -> x.odds(2, 39, which), 0, 1, LOST);
            DUE.row("one in two", which -> x.odds(0, 0, which), 1, 2, LOST);
            DUE.row("not yet", which -> x.odds(1, 0, which), 0, 1, LOST);
            DUE.row("one in four", which -> x.odds(1, 1, which), 1, 4, LOST);
            SilkWord y = Due.streetOf("n;s00;s16;s00");
            DUE.row("three in eight", which -> y.odds(1, 39, which), 3, 8, LOST);
            SilkWord z = Due.streetOf("n;s06;s16;s26;s36;s46;s56;c56");
            DUE.row("one in 128", which -> z.odds(6, 6, which), 1, 128, LOST);
        });
        SilkWord x = Due.streetOf("n;s00;s16;s50");
        DOC.says("LOST: UNKNOWN: PERSON", () -> DUE.all("no PERSON", LOST, x.odds(-1, 0, 0), x.odds(3, 0, 1), x.odds(MIN, 0, 0),
                x.odds(MAX, 0, 0), new SilkWord().odds(0, 0, 0)));
        DOC.says("OUTSIDE: day", () -> DUE.all("no DAY", LOST, x.odds(0, -1, 0), x.odds(0, 40, 1), x.odds(0, MIN, 0), x.odds(0, MAX, 0)));
        DOC.says("which", () -> {
            DUE.all("no such which", LOST, x.odds(0, 0, -1), x.odds(0, 39, 2), x.odds(0, 0, MIN), x.odds(0, 0, MAX));
            DUE.is("the call names no FAULTS", x.fault(), 0);
            x.put(0, 0, 0);
            DUE.is("refused", x.odds(0, 0, 2), LOST);
            DUE.is("the FAULT of the call ahead", x.fault(), 1);
        });
    }
}
