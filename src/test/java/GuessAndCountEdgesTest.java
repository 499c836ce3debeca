/** Boundary cases of promises 18 and 19 and of GUESS: one test for each sentence. */
public final class GuessAndCountEdgesTest {
    public static void main(String[] args) {
        guessOfNothing();
        keysFromSixToSix();
        allTonesOfAChord();
        noOtherHasAsMany();
        guessChangesNothing();
        countOfNothing();
        countOfTheMost();
        countRefuses();
        Checks.end();
    }

    private static void guesses(String song, int want) {
        Checks.due("guess of " + song, Checks.withSong(song).guess(), want);
    }

    private static void guessOfNothing() {
        Checks.sentence("18 guess: -100: there is none (no CHORDS, or none of a KEY)");
        Checks.due("no song", new ChordMover().guess(), -100);
        guesses("", -100);
        guesses("words", -100);
        guesses("[Caug]", -100);
        guesses("[Cdim7][Caug]", -100);
    }

    private static void keysFromSixToSix() {
        Checks.sentence("GUESS: for each KEY k from -6 to 6 (-6 and 6 have the same TONES)");
        String[] sevenths = {
            "Ab7", "Eb7", "Bb7", "F7", "C7", "G7", "D7", "A7", "E7", "B7", "F#7"
        };
        for (int k = -5; k <= 5; k++) {
            guesses("[" + sevenths[k + 5] + "]", k);
        }
        guesses("[C#7]", -100);
        guesses("[Db7]", -100);
        guesses("[C#7][G7]", -100);
        guesses("[C#7][G7][G7]", 0);
        guesses("[G#7]", -5);
        guesses("[Gb7]", 5);
    }

    private static void allTonesOfAChord() {
        Checks.sentence("count the CHORDS all of whose TONES are those of the NOTES k - 1 to k + 5");
        guesses("[F][C][G]", 0);
        guesses("[Bdim/F]", 0);
        guesses("[Em/F#]", -100);
        guesses("[C/F#]", 1);
        guesses("[C/Bb][C/F]", -1);
        guesses("[G7/F#]", -100);
        guesses("[G7/F#][C][F][G]", 0);
    }

    private static void noOtherHasAsMany() {
        Checks.sentence("the KEY of the most, if no other one has as many");
        guesses("[C]", -100);
        guesses("[C][G]", -100);
        guesses("[C][F]", -100);
        guesses("[G7][D7]", -100);
        guesses("[G7][D7][D7]", 1);
        guesses("[G7][D7][D7][G7]", -100);
        guesses("[G7]".repeat(30) + "[D7]".repeat(30), -100);
        guesses("[G7]".repeat(31) + "[D7]".repeat(29), 0);
        guesses("[D7]".repeat(31) + "[G7]".repeat(29), 1);
        guesses("[G7][G7][C7][A7]", 0);
        guesses("[G7][C7][A7]", -100);
    }

    private static void guessChangesNothing() {
        Checks.sentence("18 guess: GUESS: the KEY (that of the song stays)");
        ChordMover x = Checks.withSong("[D7]");
        Checks.strings(x, 7, 0, 4, 9);
        x.key(-7);
        x.play(0);
        x.write();
        String before = Checks.state(x);
        Checks.due("guess", x.guess(), 1);
        Checks.due("all stays", Checks.state(x), before);
    }

    private static void countOfNothing() {
        Checks.sentence("19 count: of a new object, and of an empty song");
        ChordMover x = new ChordMover();
        for (int what = 0; what <= 5; what++) {
            Checks.due("count(" + what + ")", x.count(what), 0);
        }
        x.song(0);
        Checks.due("no chord", x.count(0), 0);
        Checks.due("one line", x.count(1), 1);
    }

    private static void countOfTheMost() {
        Checks.sentence("19 count: 0 CHORDS, 1 LINES, 2 KEY, 3 STRINGS, 4 bytes of OUT that are kept, 5 bytes of the tape");
        ChordMover x = Checks.withSong("\n".repeat(39) + "[C]".repeat(60) + "w".repeat(981));
        Checks.strings(x, 0, 1, 2, 3, 4, 5);
        x.key(7);
        x.write();
        Checks.feed(x, "w".repeat(1200));
        int[] most = {60, 40, 7, 6, 39 + 119 + 1 + 118 + 981, 1200};
        for (int what = 0; what <= 5; what++) {
            Checks.due("count(" + what + ")", x.count(what), most[what]);
        }
        x.key(-7);
        Checks.due("the least key", x.count(2), -7);
    }

    private static void countRefuses() {
        Checks.sentence("19 count: NoSuchElementException: another what");
        ChordMover x = Checks.withSong("[C]a");
        Checks.hasNoneOf("count", x, x::count, -1, 6, 7);
        ChordMover y = new ChordMover();
        Checks.hasNoneOf("count of a new object", y, y::count, -1, 6);
    }
}
