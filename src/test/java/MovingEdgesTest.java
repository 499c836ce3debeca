/** Boundary cases of promises 5 to 8, of NOTES, KEY and MOVED: one test for each sentence. */
public final class MovingEdgesTest {
    public static void main(String[] args) {
        keyAtFirst();
        keyTellsWhatItWas();
        keyRefuses();
        moveWithinElevenEachWay();
        moveRefuses();
        keyComesWithin();
        notesAsMuchMoreAsTheKey();
        aboveNineteenTwelveLess();
        belowFifteenTwelveMore();
        nothingIsPlayedBehindAMove();
        toneWrapsAround();
        tonesOfKindsWrapAround();
        chordHasNone();
        chordHasNoOtherNumber();
        nameHasNone();
        nameOfShortestAndLongest();
        nameWithBassOnlyIfAnotherNote();
        outBecomesTheName();
        Checks.end();
    }

    private static ChordMover playedSong() {
        ChordMover x = Checks.withSong("[C]a\n[F/A]b");
        Checks.strings(x, 7, 0, 4, 9);
        x.write();
        x.play(0);
        Checks.due("a song is played", x.played(-1), 0);
        return x;
    }

    private static void keyAtFirst() {
        Checks.sentence("KEY: 0 at first");
        Checks.due("what it was", new ChordMover().key(5), 0);
        Checks.due("counted", new ChordMover().count(2), 0);
    }

    private static void keyTellsWhatItWas() {
        Checks.sentence("5 key: KEY: what it was (-7 to 7)");
        ChordMover x = playedSong();
        int before = 0;
        for (int k = -7; k <= 7; k++) {
            Checks.due("key(" + k + ")", x.key(k), before);
            Checks.due("count(2)", x.count(2), k);
            before = k;
        }
        Checks.due("the same key again", x.key(7), 7);
        Checks.due("notes stay", x.chord(1, 2), 3);
        Checks.due("what is played stays", x.played(-1), 0);
    }

    private static void keyRefuses() {
        Checks.sentence("5 key: IllegalArgumentException: it is not -7 to 7");
        ChordMover x = playedSong();
        x.key(-7);
        Checks.refusesArguments("key", x, x::key, -8, 8, -9, 9, 100);
        Checks.due("the key stays", x.key(7), -7);
        Checks.refusesArguments("key from 7", x, x::key, -8, 8);
    }

    private static int movedKey(int key, int n) {
        ChordMover x = new ChordMover();
        x.key(key);
        int answer = x.move(n);
        Checks.due("the key counted", x.count(2), answer);
        return answer;
    }

    private static void moveWithinElevenEachWay() {
        Checks.sentence("MOVED by n (-11 to 11)");
        Checks.due("move(11)", movedKey(0, 11), 5);
        Checks.due("move(-11)", movedKey(0, -11), -5);
        Checks.due("move(11) from the greatest key", movedKey(7, 11), 0);
        Checks.due("move(-11) from the least key", movedKey(-7, -11), 0);
        Checks.due("move(11) from the least key", movedKey(-7, 11), -2);
        Checks.due("move(-11) from the greatest key", movedKey(7, -11), 2);
    }

    private static void moveRefuses() {
        Checks.sentence("6 move: IllegalArgumentException: n is not -11 to 11");
        ChordMover x = playedSong();
        x.key(2);
        Checks.refusesArguments("move", x, x::move, -12, 12, -13, 13, 24);
        ChordMover y = new ChordMover();
        Checks.refusesArguments("move of a new object", y, y::move, -12, 12);
    }

    private static void keyComesWithin() {
        Checks.sentence("KEY is 7 n more, then 12 less or more until it is -5 to 6");
        Checks.due("6 stays", movedKey(6, 0), 6);
        Checks.due("-5 stays", movedKey(-5, 0), -5);
        Checks.due("7 is -5", movedKey(7, 0), -5);
        Checks.due("-6 is 6", movedKey(-6, 0), 6);
        Checks.due("-7 is 5", movedKey(-7, 0), 5);
        Checks.due("42 is 6", movedKey(0, 6), 6);
        Checks.due("-42 is 6", movedKey(0, -6), 6);
        Checks.due("-7 behind 0 is 5", movedKey(0, -1), 5);
        Checks.due("7 behind 0 is -5", movedKey(0, 1), -5);
        Checks.due("without a song too", movedKey(0, 2), 2);
    }

    private static void notesAsMuchMoreAsTheKey() {
        Checks.sentence("all NOTES are as much more as the KEY came to be");
        ChordMover x = Checks.withSong("[C/E][D]");
        x.key(7);
        x.move(0);
        Checks.due("12 less by no move at all", x.chord(0, 0), -12);
        Checks.due("its bass", x.chord(0, 2), -8);
        Checks.due("another root", x.chord(1, 0), -10);
        ChordMover y = Checks.withSong("[C/E][D]");
        y.key(-7);
        y.move(7);
        Checks.due("13 more", y.chord(0, 0), 13);
        Checks.due("its bass", y.chord(0, 2), 17);
        ChordMover z = Checks.withSong("[C]");
        Checks.due("move(0) from 0", z.move(0), 0);
        Checks.due("nothing more", z.chord(0, 0), 0);
        Checks.song(z, "[G]");
        z.move(2);
        Checks.due("a song that was read later", z.chord(0, 0), 3);
    }

    private static void aboveNineteenTwelveLess() {
        Checks.sentence("one that is above 19 then is 12 less, until it is none of both");
        ChordMover x = Checks.withSong("[E##/B##][B##/E##]");
        x.move(7);
        Checks.due("18 and 1 is 19", x.chord(0, 0), 19);
        Checks.due("19 and 1 is 8", x.chord(0, 2), 8);
        Checks.due("a root likewise", x.chord(1, 0), 8);
        Checks.due("a bass likewise", x.chord(1, 2), 19);
        ChordMover y = Checks.withSong("[B##][E##][B#]");
        y.key(-7);
        y.move(7);
        Checks.due("19 and 13 is twice 12 less", y.chord(0, 0), 8);
        Checks.due("18 and 13 is once 12 less", y.chord(1, 0), 19);
        Checks.due("12 and 13 is once 12 less", y.chord(2, 0), 13);
    }

    private static void belowFifteenTwelveMore() {
        Checks.sentence("below -15 12 more, until it is none of both");
        ChordMover x = Checks.withSong("[Cbb/Fbb][Fbb/Cbb]");
        x.move(5);
        Checks.due("-14 and 1 less is -15", x.chord(0, 0), -15);
        Checks.due("-15 and 1 less is -4", x.chord(0, 2), -4);
        Checks.due("a root likewise", x.chord(1, 0), -4);
        Checks.due("a bass likewise", x.chord(1, 2), -15);
        ChordMover y = Checks.withSong("[Fbb][Ab][Eb]");
        y.key(7);
        y.move(0);
        Checks.due("-15 and 12 less is -15", y.chord(0, 0), -15);
        Checks.due("-4 and 12 less is -4", y.chord(1, 0), -4);
        Checks.due("-3 and 12 less is -15", y.chord(2, 0), -15);
    }

    private static void nothingIsPlayedBehindAMove() {
        Checks.sentence("6 move: (nothing is PLAYED then)");
        ChordMover x = playedSong();
        x.move(0);
        Checks.due("the bar behind move(0)", x.played(-1), -1);
        Checks.due("a chord behind move(0)", x.played(0), -1);
        ChordMover y = playedSong();
        y.move(11);
        Checks.due("behind move(11)", y.played(-1), -1);
        Checks.due("it can be played again", y.play(0) >= 0 ? y.played(-1) : -1, 0);
    }

    private static void toneWrapsAround() {
        Checks.sentence("TONE of a NOTE p: 7 p MOD 12 (0 to 11)");
        ChordMover x = Checks.withSong("[Fbb][B##][B][Cb][C][B#][F]");
        int[] tones = {3, 1, 11, 11, 0, 0, 5};
        for (int i = 0; i < tones.length; i++) {
            int bits = 1 << tones[i] | 1 << (tones[i] + 4) % 12 | 1 << (tones[i] + 7) % 12;
            Checks.due("tones of chord " + i, x.chord(i, 3), bits);
        }
    }

    private static void tonesOfKindsWrapAround() {
        Checks.sentence("TONES of a CHORD are its KIND's above the ROOT's, and the BASS's");
        ChordMover x = Checks.withSong("[Bdim7][Bmaj7][B9][C/B][C/C][C/B#]");
        Checks.due("11 2 5 8", x.chord(0, 3), 1 << 11 | 1 << 2 | 1 << 5 | 1 << 8);
        Checks.due("11 3 6 10", x.chord(1, 3), 1 << 11 | 1 << 3 | 1 << 6 | 1 << 10);
        Checks.due("11 1 3 6 9", x.chord(2, 3), 1 << 11 | 1 << 1 | 1 << 3 | 1 << 6 | 1 << 9);
        Checks.due("0 4 7 and 11", x.chord(3, 3), 1 | 1 << 4 | 1 << 7 | 1 << 11);
        Checks.due("a bass that is the root", x.chord(4, 3), 145);
        Checks.due("a bass of a tone that is there", x.chord(5, 3), 145);
    }

    private static void chordHasNone() {
        Checks.sentence("7 chord: NoSuchElementException: there is none");
        ChordMover x = playedSong();
        Checks.due("the first", x.chord(0, 0), 0);
        Checks.due("the last", x.chord(1, 0), -1);
        for (int what = 0; what <= 4; what++) {
            int which = what;
            Checks.hasNoneOf("chord", x, i -> x.chord(i, which), -1, 2, 60);
        }
        ChordMover words = Checks.withSong("words");
        Checks.hasNoneOf("chord of words alone", words, i -> words.chord(i, 0), -1, 0);
        ChordMover full = Checks.withSong("[C]".repeat(59) + "[G]");
        Checks.due("the 60th", full.chord(59, 0), 1);
        Checks.hasNone("the 61st", () -> full.chord(60, 0));
        Checks.song(full, "[D]");
        Checks.hasNone("one of a longer song ahead", () -> full.chord(1, 0));
    }

    private static void chordHasNoOtherNumber() {
        Checks.sentence("7 chord: NoSuchElementException: another what");
        ChordMover x = playedSong();
        Checks.hasNoneOf("chord(0, what)", x, what -> x.chord(0, what), -1, 5, 6);
        Checks.hasNoneOf("chord(2, what)", x, what -> x.chord(2, what), -1, 5);
    }

    private static void nameHasNone() {
        Checks.sentence("8 name: NoSuchElementException: there is none");
        ChordMover x = playedSong();
        x.name(1);
        Checks.hasNoneOf("name", x, x::name, -1, 2, 60);
        Checks.due("OUT stays", Checks.told(x), "F/A");
        ChordMover words = Checks.withSong("words");
        Checks.hasNoneOf("name in words alone", words, words::name, -1, 0);
    }

    private static void nameOfShortestAndLongest() {
        Checks.sentence("8 name: OUT becomes the NAME of the i-th CHORD: how many bytes");
        ChordMover x = Checks.withSong("[C][Bbbmaj7/Ebb][F##maj7/C##]");
        Checks.due("the shortest", x.name(0), 1);
        Checks.due("its byte", Checks.told(x), "C");
        Checks.due("the longest", x.name(1), 11);
        Checks.due("its bytes", Checks.told(x), "Bbbmaj7/Ebb");
        Checks.due("with # as long", x.name(2), 11);
        Checks.due("its bytes", Checks.told(x), "F##maj7/C##");
    }

    private static void nameWithBassOnlyIfAnotherNote() {
        Checks.sentence("a NAME is told with / and BASS only if that is not the ROOT's NOTE");
        ChordMover x = Checks.withSong("[Gm/G][C#/Db][B##/C#]");
        Checks.due("the root's note", Checks.nameOf(x, 0), "Gm");
        Checks.due("the root's tone, another note", Checks.nameOf(x, 1), "C#/Db");
        Checks.due("12 apart", Checks.nameOf(x, 2), "B##/C#");
        x.move(7);
        Checks.due("one note behind a move", Checks.nameOf(x, 2), "G#");
    }

    private static void outBecomesTheName() {
        Checks.sentence("8 name: OUT becomes the NAME (nothing of what it was is left)");
        ChordMover x = playedSong();
        x.write();
        x.name(0);
        Checks.due("bytes", x.count(4), 1);
        Checks.hasNone("the byte behind", () -> x.told(1));
    }
}
