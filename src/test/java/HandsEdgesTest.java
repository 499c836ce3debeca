/** Boundary cases of promises 11 to 14, of STRINGS, HANDS and STRAIN: one test for each sentence. */
public final class HandsEdgesTest {
    private static final int[] GUITAR = {40, 45, 50, 55, 59, 60};
    private static final int[] UKULELE = {7, 0, 4, 9};

    public static void main(String[] args) {
        pitchesFromZeroToSixty();
        stringRefuses();
        noneBehindSix();
        nothingIsPlayedBehindAString();
        allStringsGo();
        nothingIsPlayedBehindUnstring();
        handsOfNoneOrFewStrings();
        atMostSixHands();
        handsOfEachChord();
        handsHaveNoChord();
        handsHaveNoBar();
        barsFromZeroToSeven();
        fretsFromZeroToNine();
        soundsMod12();
        someStringSounds();
        allThatSoundAreTones();
        allTonesSound();
        fifthNeednOfFourOrMore();
        leastSoundIsTheBass();
        threeFretsApart();
        fourFingers();
        leastFretsAreOneFinger();
        openStringsMakeThemMany();
        strain();
        orderOfLikeStrains();
        fretHasNoChord();
        fretHasNoHand();
        fretHasNoString();
        fretHasNoBar();
        Checks.end();
    }

    private static ChordMover strung(String song, int... pitches) {
        ChordMover x = Checks.withSong(song);
        Checks.strings(x, pitches);
        return x;
    }

    private static void handsAre(String song, String want, int... pitches) {
        Checks.due("hands of " + song, Checks.hands(strung(song, pitches), 0, 0), want);
    }

    private static void pitchesFromZeroToSixty() {
        Checks.sentence("11 string: A STRING behind the others: how many (PITCH 0 to 60)");
        ChordMover x = Checks.withSong("[C/E]");
        Checks.due("the least pitch", x.string(0), 1);
        Checks.due("the greatest pitch", x.string(60), 2);
        Checks.due("one more", x.string(7), 3);
        Checks.due("the row of strings is kept", Checks.hands(x, 0, 0), "400 475");
        Checks.due("to six", x.string(0) + x.string(0) + x.string(0), 4 + 5 + 6);
    }

    private static void stringRefuses() {
        Checks.sentence("11 string: IllegalArgumentException: the PITCH is not 0 to 60");
        ChordMover x = strung("[C]", UKULELE);
        x.play(0);
        Checks.refusesArguments("string", x, x::string, -1, 61, 62, 100);
        Checks.due("what is played stays", x.played(-1), 0);
        ChordMover full = strung("[C]", GUITAR);
        Checks.refusesArguments("a seventh string", full, full::string, -1, 61);
    }

    private static void noneBehindSix() {
        Checks.sentence("11 string: NONE: there are 6");
        ChordMover x = strung("[C]", GUITAR);
        x.play(0);
        String before = Checks.state(x);
        Checks.due("the seventh", x.string(0), -1);
        Checks.due("and again", x.string(60), -1);
        Checks.due("nothing comes", Checks.state(x), before);
        Checks.due("the strings are those", Checks.hand(x, 0, 0, 0), "x32010");
    }

    private static void nothingIsPlayedBehindAString() {
        Checks.sentence("11 string: (nothing is PLAYED then)");
        ChordMover x = strung("[C]", UKULELE);
        x.play(0);
        Checks.due("played", x.played(0), 0);
        x.string(0);
        Checks.due("the bar", x.played(-1), -1);
        Checks.due("the chord", x.played(0), -1);
    }

    private static void allStringsGo() {
        Checks.sentence("12 unstring: All STRINGS go: how many there were");
        ChordMover x = strung("[C]", GUITAR);
        Checks.due("six", x.unstring(), 6);
        Checks.due("none are left", x.count(3), 0);
        Checks.due("none", x.unstring(), 0);
        Checks.due("no hands", x.hands(0, 0), 0);
        Checks.due("the first again", x.string(0), 1);
        Checks.due("one", x.unstring(), 1);
        Checks.strings(x, 0, 4, 7);
        Checks.due("nothing of the strings ahead is left", Checks.hands(x, 0, 0), "000");
    }

    private static void nothingIsPlayedBehindUnstring() {
        Checks.sentence("12 unstring: (nothing is PLAYED then)");
        ChordMover x = strung("[C]", UKULELE);
        x.play(0);
        x.unstring();
        Checks.due("the bar", x.played(-1), -1);
        Checks.due("the chord", x.played(0), -1);
    }

    private static void handsOfNoneOrFewStrings() {
        Checks.sentence("13 hands: How many there are (of no, one and two STRINGS)");
        ChordMover x = Checks.withSong("[C][C7]");
        int[] pitches = {0, 4};
        for (int many = 0; many <= 2; many++) {
            for (int bar = 0; bar <= 7; bar++) {
                Checks.due(many + " strings, bar " + bar, x.hands(0, bar) + x.hands(1, bar), 0);
            }
            if (many < 2) {
                x.string(pitches[many]);
            }
        }
        x.string(7);
        Checks.due("of three", x.hands(0, 0), 1);
    }

    private static void atMostSixHands() {
        Checks.sentence("13 hands: How many of the first 6 HANDS there are");
        Checks.due("of more than six", strung("[C]", GUITAR).hands(0, 0), 6);
        Checks.due("of six just so", strung("[Em6/G]", 60, 60, 60).hands(0, 7), 6);
        Checks.due("of five", strung("[C]", UKULELE).hands(0, 0), 5);
        Checks.due("of one", strung("[C]", 0, 4, 7).hands(0, 0), 1);
        Checks.due("of none", strung("[C]", 0, 4, 7).hands(0, 1), 0);
    }

    private static void handsOfEachChord() {
        Checks.sentence("13 hands: of the i-th CHORD (another ROOT, BASS or KIND alone has other HANDS)");
        ChordMover x = strung("[C/E][A/E][C][Am/E][C/E][B#/Fb]", 4, 12, 19);
        String[] hands = {"000 075", "012 096", "879", "002", "000 075", "000 075"};
        for (int i = 0; i < hands.length; i++) {
            Checks.due("hands of chord " + i, Checks.hands(x, i, 0), hands[i]);
        }
        for (int i = hands.length - 1; i >= 0; i--) {
            Checks.due("hands of chord " + i + " again", Checks.hands(x, i, 0), hands[i]);
        }
    }

    private static void handsHaveNoChord() {
        Checks.sentence("13 hands: NoSuchElementException: there is no such CHORD");
        ChordMover x = strung("[C][G]", UKULELE);
        x.play(0);
        Checks.due("the last", x.hands(1, 0) > 0 ? 1 : 0, 1);
        Checks.hasNoneOf("hands", x, i -> x.hands(i, 0), -1, 2, 60);
        Checks.hasNoneOf("hands at no bar", x, i -> x.hands(i, 8), -1, 2);
        ChordMover words = strung("words", UKULELE);
        Checks.hasNoneOf("hands in words alone", words, i -> words.hands(i, 7), -1, 0);
        ChordMover full = strung("[C]".repeat(60), 0, 4, 7);
        Checks.due("the 60th", full.hands(59, 0), 1);
        Checks.hasNone("the 61st", () -> full.hands(60, 0));
    }

    private static void handsHaveNoBar() {
        Checks.sentence("13 hands: IllegalArgumentException: no such BAR");
        ChordMover x = strung("[C]", UKULELE);
        x.play(0);
        Checks.refusesArguments("hands", x, bar -> x.hands(0, bar), -1, 8, 9);
        ChordMover bare = Checks.withSong("[C]");
        Checks.refusesArguments("hands without strings", bare, bar -> bare.hands(0, bar), -1, 8);
    }

    private static void barsFromZeroToSeven() {
        Checks.sentence("A BAR is at 0 to 7");
        String[] chords = {"C", "C#", "D", "D#", "E", "F", "F#", "G"};
        for (int bar = 0; bar <= 7; bar++) {
            ChordMover x = strung("[" + chords[bar] + "]", 0, 4, 7);
            Checks.due("at bar " + bar, Checks.hands(x, 0, bar), "000");
        }
    }

    private static void fretsFromZeroToNine() {
        Checks.sentence("A HAND has for each STRING NONE (silent) or a FRET 0 to 9");
        handsAre("[C]", "999", 3, 7, 10);
        handsAre("[C]", "", 2, 6, 9);
        handsAre("[C]", "000", 0, 4, 7);
        handsAre("[C]", "009 036", 0, 16, 10);
        handsAre("[C]", "000x 0003 0007 00x7 0087", UKULELE);
    }

    private static void soundsMod12() {
        Checks.sentence("it sounds PITCH, BAR and FRET together; its TONE is that MOD 12");
        ChordMover x = strung("[Em6/G]", 60, 60, 60);
        Checks.due("67, 73 and 76", Checks.hands(x, 0, 7), "069 096 609 690 906 960");
        ChordMover y = strung("[Cm]", 0, 3, 7);
        Checks.due("0, 3 and 7", Checks.hand(y, 0, 0, 0), "000");
        ChordMover z = strung("[B]", 11, 15, 18);
        Checks.due("11, 15 and 18", Checks.hand(z, 0, 0, 0), "000");
    }

    private static void someStringSounds() {
        Checks.sentence("A HAND fits a CHORD, if some STRING sounds");
        handsAre("[C]", "", 1);
        handsAre("[C7]", "", 1, 1, 1);
        handsAre("[C9/F]", "", 1, 1, 1, 1);
    }

    private static void allThatSoundAreTones() {
        Checks.sentence("all that sound are its TONES");
        handsAre("[C]", "000x 0003 0006 0303 0x03 0056", 0, 4, 7, 1);
        handsAre("[C]", "x000 3000 3030 6000 30x0 6005", 1, 0, 4, 7);
        handsAre("[C/C#]", "0000 000x 0005 0006 0405 0x05", 1, 12, 16, 19);
    }

    private static void allTonesSound() {
        Checks.sentence("all TONES sound");
        handsAre("[C]", "009 036", 0, 16, 10);
        handsAre("[C/E]", "003 078", 4, 12, 16);
        handsAre("[Cdim7]", "0000 0606 0336 0699", 0, 3, 6, 9);
        handsAre("[Cdim7]", "", 0, 3, 6);
        handsAre("[C9]", "0000 0066", 0, 2, 4, 10);
    }

    private static void fifthNeednOfFourOrMore() {
        Checks.sentence("(but, if there are four or more, that 7 above the ROOT's needn't)");
        handsAre("[C7]", "000 066", 0, 4, 10);
        handsAre("[C]", "000", 0, 4, 7);
        handsAre("[C/D]", "000", 2, 12, 16);
        handsAre("[Cmaj7/E]", "000", 4, 12, 23);
        handsAre("[Cmaj7/E]", "004", 4, 12, 19);
        handsAre("[C7/G]", "", 0, 4, 10);
        handsAre("[C7/G]", "0000 0066", 7, 12, 16, 22);
    }

    private static void leastSoundIsTheBass() {
        Checks.sentence("of the STRINGS of the least that sounds the TONE is the BASS's");
        handsAre("[C]", "570 543", 7, 12, 16);
        handsAre("[C/G]", "000", 7, 12, 16);
        handsAre("[C]", "0000 x000 0x00 0400 4000 0430", 12, 12, 16, 19);
        ChordMover x = strung("[C]", 4, 0, 7);
        Checks.due("not the first string's", Checks.hand(x, 0, 0, 0), "000");
        ChordMover y = strung("[C]", 4, 12, 16, 19);
        Checks.due("of a silent string not", Checks.hand(y, 0, 0, 0), "x000");
    }

    private static void threeFretsApart() {
        Checks.sentence("the greatest FRET above 0 is at most 3 more than the least one above 0");
        handsAre("[C]", "504 144", 11, 12, 15);
        handsAre("[C]", "550", 11, 14, 12);
        handsAre("[C]", "", 11, 11, 15);
        handsAre("[C]", "009 036", 0, 16, 10);
    }

    private static void fourFingers() {
        Checks.sentence("FINGERS are at most 4: how many FRETS are above 0");
        Checks.due("01111 are four", Checks.hand(strung("[C9/F]", 5, 11, 13, 15, 21), 0, 0, 0), "01111");
        handsAre("[C9/F]", "11333 13133", 4, 11, 11, 13, 19);
        handsAre("[C9/F]", "", 4, 9, 11, 13, 19);
    }

    private static void leastFretsAreOneFinger() {
        Checks.sentence("if no STRING sounds with FRET 0, those of the least FRET count as one");
        ChordMover x = strung("[C]", 11, 11, 15, 18);
        Checks.due("silent ones aside", Checks.hands(x, 0, 0), "1111 x111 1x11");
        Checks.due("one finger", x.fret(0, 0, 0, -1), 3 + 1);
        Checks.due("one finger beside a silent string", x.fret(0, 0, 1, -1), 3 + 1 + 4);
        ChordMover y = strung("[C]", 3, 7, 10);
        Checks.due("one finger at the highest fret", y.fret(0, 0, 0, -1), 3 + 9);
        ChordMover z = strung("[C9/F]", 4, 11, 11, 13, 19);
        Checks.due("those of the greatest are many", z.fret(0, 0, 0, -1), 3 * 4 + 3);
        ChordMover w = strung("[C]", 7, 12, 16);
        Checks.due("a least one alone is one", w.fret(0, 0, 1, -1), 3 * 3 + 5);
    }

    private static void openStringsMakeThemMany() {
        Checks.sentence("if no STRING sounds with FRET 0 (else each is one)");
        handsAre("[C9/F]", "x11111 311111 311113 31111x 313113 31x113", 31, 4, 11, 13, 15, 21);
        ChordMover x = strung("[C]", 0, 11, 15, 18);
        Checks.due("with an open string", Checks.hand(x, 0, 0, 1), "0111");
        Checks.due("three fingers", x.fret(0, 0, 1, -1), 3 * 3 + 1);
    }

    private static void strain() {
        Checks.sentence("STRAIN: 3 for each FINGER, the greatest FRET, 4 for each silent STRING");
        Checks.due("the least there is", strung("[C]", 0, 4, 7).fret(0, 0, 0, -1), 0);
        Checks.due("a silent string alone", strung("[C]", UKULELE).fret(0, 0, 0, -1), 4);
        Checks.due("one finger at 3", strung("[C]", UKULELE).fret(0, 0, 1, -1), 3 + 3);
        Checks.due("two fingers, to 9", strung("[Em6/G]", 60, 60, 60).fret(0, 7, 0, -1), 6 + 9);
        Checks.due("three silent strings", strung("[C]", 0, 4, 7, 1, 1, 1).fret(0, 0, 0, -1), 12);
    }

    private static void orderOfLikeStrains() {
        Checks.sentence("HANDS are ordered by STRAIN, then by their rows (STRING 0 first; NONE ahead of 0)");
        handsAre("[C]", "047 074 407 470 704 740", 60, 60, 60);
        handsAre("[C]", "0000 00x0 000x 0005 0050 0009", 0, 4, 7, 7);
        handsAre("[C]", "0000 x000 0x00 0400 4000 0430", 12, 12, 16, 19);
    }

    private static void fretHasNoChord() {
        Checks.sentence("14 fret: NoSuchElementException: there is no such CHORD");
        ChordMover x = strung("[C][F]", UKULELE);
        x.play(0);
        Checks.hasNoneOf("fret", x, i -> x.fret(i, 0, 0, 0), -1, 2, 60);
        Checks.hasNoneOf("fret at no bar", x, i -> x.fret(i, -1, 0, 0), -1, 2);
    }

    private static void fretHasNoHand() {
        Checks.sentence("14 fret: NoSuchElementException: there is no such HAND");
        ChordMover x = strung("[C]", UKULELE);
        Checks.due("the last of five", x.fret(0, 0, 4, 3), 7);
        Checks.hasNoneOf("fret of five hands", x, j -> x.fret(0, 0, j, 0), -1, 5, 6);
        Checks.hasNoneOf("strain of five hands", x, j -> x.fret(0, 0, j, -1), -1, 5, 6);
        ChordMover six = strung("[C]", GUITAR);
        Checks.due("the sixth has a strain", six.fret(0, 0, 5, -1) > 0 ? 1 : 0, 1);
        Checks.hasNoneOf("fret of six hands", six, j -> six.fret(0, 0, j, 0), -1, 6, 7);
        ChordMover none = strung("[C]", 0, 4, 7);
        Checks.hasNoneOf("fret of no hands", none, j -> none.fret(0, 1, j, -1), -1, 0);
        ChordMover bare = Checks.withSong("[C]");
        Checks.hasNoneOf("fret without strings", bare, j -> bare.fret(0, 0, j, -1), -1, 0);
    }

    private static void fretHasNoString() {
        Checks.sentence("14 fret: NoSuchElementException: there is no such STRING (of STRING NONE its STRAIN)");
        ChordMover x = strung("[C]", UKULELE);
        Checks.due("the first", x.fret(0, 0, 2, 0), 0);
        Checks.due("the last", x.fret(0, 0, 0, 3), -1);
        Checks.due("NONE", x.fret(0, 0, 0, -1), 4);
        Checks.hasNoneOf("fret of four strings", x, s -> x.fret(0, 0, 0, s), -2, 4, 5, 6);
        ChordMover six = strung("[C]", GUITAR);
        Checks.due("the sixth", six.fret(0, 0, 0, 5), 0);
        Checks.hasNoneOf("fret of six strings", six, s -> six.fret(0, 0, 0, s), -2, 6, 7);
        six.unstring();
        Checks.strings(six, 0, 4, 7);
        Checks.hasNoneOf("fret of a string that went", six, s -> six.fret(0, 0, 0, s), 3, 5);
    }

    private static void fretHasNoBar() {
        Checks.sentence("14 fret: IllegalArgumentException likewise (no such BAR)");
        ChordMover x = strung("[C]", UKULELE);
        x.play(0);
        Checks.refusesArguments("fret", x, bar -> x.fret(0, bar, 0, 0), -1, 8, 9);
        Checks.refusesArguments("strain", x, bar -> x.fret(0, bar, 0, -1), -1, 8);
        Checks.refusesArguments("fret of a hand that none has", x, bar -> x.fret(0, bar, 6, 0), -1, 8);
    }
}
