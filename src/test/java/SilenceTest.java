/** Promises 14 to 18: fewest, bribes, whispers, worth, asked. */
public final class SilenceTest {
    private static final Due DUE = new Due("SilenceTest");

    public static void main(String[] args) {
        fewest();
        fewestWithWordsThere();
        bribes();
        bribesOfSeveral();
        whispers();
        whispersWithSixThere();
        worth();
        askedOneBehindAnother();
        askedWithWordsWhispersBribes();
        askedOrderOfRefusals();
        questionsChangeNothing();
        DUE.end();
    }

    private static void fewest() {
        DUE.is("each needs its own", Due.streetOf("n;s10;s10;s10").fewest(), 7);
        DUE.is("one anywhere: the least", Due.streetOf("n;s11;s11;s11;s11;s11").fewest(), 1);
        DUE.is("two, not the one between", Due.streetOf("n;s10;s11;s10").fewest(), 5);
        DUE.is("none is needed", Due.streetOf("n;s00;s11").fewest(), 0);
        DUE.is("not by all", Due.streetOf("n;t50;s00").fewest(), -9);
        DUE.is("only the one at the end", Due.streetOf("n;s11;s21;s10").fewest(), 4);
        DUE.is("one, though two at lesser places do", Due.streetOf("n;s12;s32;s33;s11").fewest(), 4);
        SilkWord x = Due.streetOf("n;t50;s10");
        x.bribe(0, true);
        DUE.is("a bribed one need not", x.fewest(), 2);
        x.bribe(1, true);
        DUE.is("all are bribed", x.fewest(), 0);
    }

    private static void fewestWithWordsThere() {
        SilkWord x = Due.streetOf("n;s21;s21");
        DUE.is("two", x.fewest(), 3);
        x.word(0, 0);
        DUE.is("one more, at the same place", x.fewest(), 1);
        x.unsay(1);
        x.word(0, 39);
        DUE.is("one more for the last day", x.fewest(), 1);
        SilkWord six = Due.streetOf("n;t36;t36");
        DUE.row("word(1, 0)", k -> six.word(1, 0), 0, 1, 2, 3, 4, 5, -4);
        DUE.is("two more than 6", six.fewest(), 3);
        DUE.is("many(1)", six.many(1), 6);
        SilkWord seven = Due.streetOf("n;s11;s11;s11;s11;s11;s11;s10");
        DUE.is("the last of seven places alone", seven.fewest(), 64);
    }

    private static void bribes() {
        SilkWord x = Due.streetOf("n;s11;s11;s11;s11");
        DUE.row("bribes in silence", x::bribes, 0, 0, 0, 0, -1);
        x.word(0, 0);
        DUE.row("bribes", x::bribes, -9, -9, 2, 2, -1);
        DUE.is("bribes(-1)", x.bribes(-1), -1);
        x.bribe(2, true);
        DUE.row("bribes, one bribed", x::bribes, -9, -9, 0, 0);
        x.bribe(2, false);
        x.bribe(0, true);
        DUE.row("bribes, more than are", x::bribes, 0, -9, 2, 2);
    }

    private static void bribesOfSeveral() {
        SilkWord x = Due.streetOf("n;s00;s00;s16;s56;s00");
        DUE.row("bribes", x::bribes, -9, -9, 19, 0, -9);
        SilkWord y = Due.streetOf("n;s00;s00;s26;s56;s00");
        DUE.row("two of three: the least", y::bribes, -9, -9, 3, 0, -9);
        SilkWord z = Due.streetOf("n;s00;s11;s12;s11;s11");
        DUE.is("one is fewer than two of a lesser set", z.bribes(4), 1);
    }

    private static void whispers() {
        SilkWord x = Due.streetOf("n;s10;s10;s10");
        DUE.row("the least pair", x::whispers, 1, 2, -2);
        DUE.is("whispers(-1)", x.whispers(-1), -2);
        x.bribe(0, true);
        DUE.row("not with a bribed one", x::whispers, 12, 2);
        x.bribe(1, true);
        DUE.row("with one that may: the least pair", x::whispers, 2, 1);
        x.bribe(2, true);
        DUE.row("none", x::whispers, -9, 0);
        DUE.row("the last pair", Due.streetOf("n;s50;s10;s10")::whispers, 12, 2);
        DUE.row("all say it now", Due.streetOf("n;s00;s00")::whispers, -9, 2);
        DUE.row("none dares", Due.streetOf("n;s50;s50")::whispers, -9, 0);
        DUE.row("the most, not the first", Due.streetOf("n;s10;s50;s50;s11;s11;s11;s20")::whispers, 3, 4);
        DUE.row("whispers without a street", new SilkWord()::whispers, -3, -3, -2);
    }

    private static void whispersWithSixThere() {
        SilkWord x = Due.streetOf("n;t30;s10;s10");
        DUE.row("whisper(0, 1)", k -> x.whisper(0, 1), 0, 1, 2, 3, 4, 5, -4);
        DUE.row("a seventh", x::whispers, 2, 2);
        DUE.is("many(2)", x.many(2), 6);
        DUE.row("says: it was not whispered", x::says, -9, 0, -9);
    }

    private static void worth() {
        SilkWord x = Due.streetOf("n;s10;s10;s11");
        DUE.is("worth(0) without a word", x.worth(0), -1);
        x.word(0, 0);
        x.word(1, 3);
        DUE.row("worth", x::worth, 101, 102, -1);
        DUE.is("worth(-1)", x.worth(-1), -1);
        x.word(2, 5);
        DUE.row("worth", x::worth, 101, 101, 100, -1);
        x.word(1, 39);
        DUE.row("worth of one of two alike", x::worth, 101, 100, 100, 100);
        x.bribe(0, true);
        DUE.is("worth to a bribed one", x.worth(0), 100);
        SilkWord y = Due.streetOf("n;s10;s20;s10");
        y.word(1, 0);
        y.word(2, 8);
        y.word(1, 1);
        y.word(0, 2);
        DUE.row("worth: the others stay", y::worth, 101, 101, 101, 101);
        SilkWord late = Due.streetOf("n;s10;s10;s12;s11");
        late.word(0, 0);
        late.word(1, 39);
        DUE.row("worth: the others keep their days", late::worth, 102, 101);
    }

    private static SilkWord fiveAsked() {
        SilkWord x = Due.streetOf("n;s00;s11;s12;c13;t06");
        x.sheet(0, 0, 12);
        int[] row = {0, 1, 2, 3, 4, 3, 2, 1, 0, 3, 4, 9};
        for (int i = 0; i < row.length; i++) {
            x.put(0, i, row[i]);
        }
        return x;
    }

    private static void askedOneBehindAnother() {
        SilkWord x = fiveAsked();
        DUE.is("up the street", x.asked(0, 0, 0, 5), 31);
        DUE.is("down the street", x.asked(0, 0, 4, 5), 1);
        DUE.is("the first and the far ones", x.asked(0, 0, 8, 3), 1);
        DUE.is("from 1 on", x.asked(0, 0, 1, 4), 0);
        DUE.is("nobody", x.asked(0, 0, 3, 0), 0);
        DUE.is("nobody, at the end", x.asked(0, 0, 12, 0), 0);
        DUE.is("one twice", x.asked(0, 0, 0, 6), -1);
        DUE.is("fault()", x.fault(), 0);
        DUE.is("no such one", x.asked(0, 0, 9, 3), -1);
        x.put(0, 11, -1);
        DUE.is("one below 0", x.asked(0, 0, 11, 1), -1);
        x.put(0, 11, 5);
        DUE.is("one behind the last", x.asked(0, 0, 11, 1), -1);
        x.put(0, 11, 260);
        DUE.is("one cut to its lane", x.asked(0, 0, 8, 1), 1);
        DUE.is("260 is 4 as a byte", x.asked(0, 0, 11, 1), 0);
    }

    private static void askedWithWordsWhispersBribes() {
        SilkWord x = fiveAsked();
        x.sheet(1, 1, 2);
        x.put(1, 1, 4);
        DUE.is("0, 4", x.asked(1, 1, 0, 2), 1);
        x.word(4, 1);
        DUE.is("0, 4: a word of the next day", x.asked(1, 1, 0, 2), 1);
        x.word(4, 0);
        DUE.is("0, 4: a word of the first day", x.asked(1, 1, 0, 2), 17);
        x.unsay(1);
        x.whisper(3, 4);
        DUE.is("0, 4: a whisper", x.asked(1, 1, 0, 2), 17);
        x.bribe(0, true);
        DUE.is("0, 4: a bribed one", x.asked(1, 1, 0, 2), 0);
        x.bribe(0, false);
        x.bribe(4, true);
        DUE.is("0, 4: the other bribed", x.asked(1, 1, 0, 2), 1);
        x.word(3, 0);
        DUE.is("up the street, a word in no ear of 1", x.asked(0, 0, 1, 3), 12);
    }

    private static void askedOrderOfRefusals() {
        SilkWord x = new SilkWord();
        x.sheet(1, 1, 21);
        DUE.is("asked(4, 3, ..)", x.asked(4, 3, -1, -1), -1);
        DUE.is("asked(-1, 0, ..)", x.asked(-1, 0, 0, 0), -1);
        DUE.is("lane ahead of no street", x.asked(1, 3, -1, -1), -2);
        DUE.is("lane -1", x.asked(1, -1, 0, 0), -2);
        DUE.is("no street ahead of CAST", x.asked(1, 0, -1, -1), -3);
        DUE.is("no street ahead of NULL", x.asked(0, 0, -1, -1), -3);
        DUE.is("fault()", x.fault(), 0);
        Due.take(x, "n;s11;s11");
        DUE.is("CAST ahead of SIZE", x.asked(1, 0, -1, -1), -12);
        DUE.is("fault()", x.fault(), 2);
        DUE.is("NULL ahead of SIZE", x.asked(0, 0, -1, -1), -11);
        DUE.is("fault()", x.fault(), 1);
        DUE.is("SIZE ahead of INDEX", x.asked(1, 1, -1, -1), -14);
        DUE.is("fault()", x.fault(), 4);
        DUE.is("INDEX ahead of n above 20", x.asked(1, 1, 0, 22), -13);
        DUE.is("fault()", x.fault(), 3);
        DUE.is("INDEX with none taken", x.asked(1, 1, 22, 0), -13);
        DUE.is("INDEX below 0 with none taken", x.asked(1, 1, -1, 0), -13);
        DUE.is("INDEX of what wraps", x.asked(1, 1, 1, Integer.MAX_VALUE), -13);
        DUE.is("n above 20 ahead of a person twice", x.asked(1, 1, 0, 21), -2);
        DUE.is("fault()", x.fault(), 0);
        DUE.is("n of 20: a person twice", x.asked(1, 1, 0, 20), -1);
        DUE.is("n of 1", x.asked(1, 1, 20, 1), 0);
    }

    private static void questionsChangeNothing() {
        SilkWord x = Due.streetOf("n;s11;s11;c11;t12");
        x.word(0, 3);
        x.whisper(1, 2);
        x.bribe(3, true);
        x.fewest();
        x.bribes(0);
        x.whispers(0);
        x.whispers(1);
        x.worth(0);
        x.paid();
        x.where(0);
        x.odds(0, 0, 0);
        DUE.row("many", x::many, 4, 1, 1, 0);
        DUE.row("bribed", p -> x.ofPerson(p, 4), 0, 0, 0, 1);
        DUE.row("says", x::says, 1, 0, 1, -9);
    }
}
