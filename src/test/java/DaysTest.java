/** Promises 9 to 13: says, crowd, heard, silence, noticed. */
public final class DaysTest {
    private static final Due DUE = new Due("DaysTest");
    private static final String FIVE = "n;s11;s11;s11;s11;s11";

    public static void main(String[] args) {
        saysAlongTheStreet();
        saysAllAtOnce();
        saysAsOneDares();
        saysWithinAnEar();
        saysNotBehindTheLastDay();
        saysNotIfBribed();
        saysLateWords();
        crowd();
        heardPersons();
        heardHeld();
        heardRefuses();
        silence();
        noticed();
        DUE.end();
    }

    private static void saysAlongTheStreet() {
        SilkWord x = Due.streetOf(FIVE);
        DUE.row("says without a word", x::says, -9, -9, -9, -9, -9, -1);
        x.word(0, 2);
        DUE.row("says", x::says, 2, 2, 3, 4, 5, -1);
        DUE.is("says(-1)", x.says(-1), -1);
        DUE.is("says(MAX)", x.says(Integer.MAX_VALUE), -1);
        x.word(4, 0);
        DUE.row("says from both ends", x::says, 2, 2, 1, 0, 0);
    }

    private static void saysAllAtOnce() {
        SilkWord x = Due.streetOf("n;s06;s16;s26;s36");
        DUE.row("says one a day", x::says, 0, 1, 2, 3);
        SilkWord y = Due.streetOf("n;s26;s16;s06;s06");
        DUE.row("says, two on the first day", y::says, 1, 1, 0, 0);
    }

    private static void saysAsOneDares() {
        SilkWord x = Due.streetOf("n;t06;c06;s16;s06;s06");
        DUE.row("says", x::says, 1, 1, 1, 0, 0);
        SilkWord y = Due.streetOf("n;t16;c16;s26;c06;s06");
        DUE.row("says, each as it dares", y::says, 3, 2, 2, 1, 0);
        SilkWord z = Due.streetOf("n;t16;c16;s16;s06");
        DUE.row("a tailor lacks one", z::says, -9, 2, 1, 0);
    }

    private static void saysWithinAnEar() {
        SilkWord x = Due.streetOf("n;s10;s10;s11;s12;s12");
        x.word(0, 1);
        DUE.row("says: an ear of 0 hears its own place", x::says, 1, -9, -9, -9, -9);
        x.word(1, 5);
        DUE.row("says: words as far as an ear", x::says, 1, 5, 5, 5, 6);
    }

    private static void saysNotBehindTheLastDay() {
        SilkWord x = Due.streetOf(FIVE);
        x.word(0, 39);
        DUE.row("says from the last day on", x::says, 39, 39, -9, -9, -9);
        DUE.is("crowd(39)", x.crowd(39), 3);
        x.unsay(1);
        x.word(0, 37);
        DUE.row("says from near the end on", x::says, 37, 37, 38, 39, -9);
    }

    private static void saysNotIfBribed() {
        SilkWord x = Due.streetOf(FIVE);
        x.word(0, 0);
        x.bribe(2, true);
        DUE.row("says past a bribed one", x::says, 0, 0, -9, -9, -9);
        x.bribe(2, false);
        DUE.row("says again", x::says, 0, 0, 1, 2, 3);
    }

    private static void saysLateWords() {
        SilkWord x = Due.streetOf("n;s30;s30");
        x.word(0, 9);
        x.word(0, 3);
        DUE.is("two of three", x.says(0), -9);
        x.word(0, 20);
        DUE.is("the third", x.says(0), 20);
        x.whisper(0, 1);
        DUE.is("a whisper is from the first day on", x.says(0), 9);
        x.whisper(1, 0);
        DUE.is("two whispers", x.says(0), 3);
        x.whisper(1, 0);
        DUE.row("three whispers", x::says, 0, 0);
    }

    private static void crowd() {
        SilkWord x = Due.streetOf(FIVE);
        x.word(0, 2);
        DUE.row("crowd", x::crowd, 0, 0, 3, 7, 15, 31, 31);
        DUE.is("crowd(39)", x.crowd(39), 31);
        DUE.is("crowd(40)", x.crowd(40), -2);
        DUE.is("crowd(-1)", x.crowd(-1), -2);
        DUE.is("crowd(MIN)", x.crowd(Integer.MIN_VALUE), -2);
        DUE.is("crowd(40) without a street", new SilkWord().crowd(40), -2);
        DUE.is("crowd(39) without a street", new SilkWord().crowd(39), -3);
    }

    private static void heardPersons() {
        SilkWord x = Due.streetOf(FIVE);
        x.word(0, 2);
        DUE.row("whom 0 has heard", day -> x.heard(0, day, 0), 0, 0, 0, 3, 3);
        DUE.row("whom 2 has heard, itself too", day -> x.heard(2, day, 0), 0, 0, 0, 2, 6, 14, 14);
        DUE.row("whom 4 has heard", day -> x.heard(4, day, 0), 0, 0, 0, 0, 0, 8, 24);
        x.bribe(4, true);
        DUE.is("a bribed one hears", x.heard(4, 39, 0), 8);
    }

    private static void heardHeld() {
        SilkWord x = Due.streetOf("n;s51;s11;s51");
        x.word(0, 2);
        x.word(0, 4);
        x.whisper(0, 2);
        DUE.row("held by 0", day -> x.heard(0, day, 1), 1, 1, 2, 3, 4, 4);
        DUE.row("held by 1", day -> x.heard(1, day, 1), 0, 0, 1, 2, 3, 3);
        DUE.row("held by 2", day -> x.heard(2, day, 1), 1, 1, 1, 2, 2, 2);
        DUE.row("whom 1 has heard", day -> x.heard(1, day, 0), 0, 0, 0, 2, 2);
        x.whisper(2, 0);
        DUE.is("held by 2, whispered to twice", x.heard(2, 0, 1), 2);
        x.bribe(1, true);
        DUE.is("held by a bribed one", x.heard(1, 39, 1), 2);
    }

    private static void heardRefuses() {
        SilkWord x = Due.streetOf("n;s51;s11;s51");
        DUE.is("heard(3, 40, 2)", x.heard(3, 40, 2), -1);
        DUE.is("heard(-1, 0, 0)", x.heard(-1, 0, 0), -1);
        DUE.is("heard(0, 40, 0)", x.heard(0, 40, 0), -2);
        DUE.is("heard(0, -1, 0)", x.heard(0, -1, 0), -2);
        DUE.is("heard(0, 0, 2)", x.heard(0, 0, 2), -2);
        DUE.is("heard(0, 0, -1)", x.heard(0, 0, -1), -2);
        DUE.is("heard(2, 39, 1)", x.heard(2, 39, 1), 0);
    }

    private static void silence() {
        SilkWord x = Due.streetOf("n;s11;c00;t06");
        DUE.is("silence()", x.silence(), 1);
        x.word(0, 39);
        DUE.is("silence() broken on the last day", x.silence(), 0);
        x.bribe(0, true);
        x.bribe(1, true);
        DUE.is("silence() of bribed ones and a tailor", x.silence(), 1);
        x.word(2, 39);
        DUE.is("silence() broken by the tailor", x.silence(), 0);
        DUE.is("silence() broken without a word", Due.streetOf("n;s51;s00").silence(), 0);
    }

    private static void noticed() {
        SilkWord five = Due.streetOf(FIVE);
        DUE.is("noticed() in silence", five.noticed(), -9);
        five.word(0, 2);
        DUE.is("noticed(): two of five are too few", five.noticed(), 3);
        SilkWord four = Due.streetOf("n;s11;s11;s11;s11");
        four.word(0, 2);
        DUE.is("noticed(): two of four are half", four.noticed(), 2);
        four.bribe(1, true);
        DUE.is("noticed(): one of four, one bribed", four.noticed(), -9);
        SilkWord two = Due.streetOf("n;s51;s00");
        DUE.is("noticed(): one of two, on the first day", two.noticed(), 0);
        two.bribe(1, true);
        DUE.is("noticed(): none", two.noticed(), -9);
        SilkWord late = Due.streetOf("n;s10;s10");
        late.word(1, 39);
        DUE.is("noticed() on the last day", late.noticed(), 39);
    }
}
