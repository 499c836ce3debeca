/** Boundary cases of promises 15 to 17, of PLAYED and EASIEST: one test for each sentence. */
public final class PlayingEdgesTest {
    private static final int[] UKULELE = {7, 0, 4, 9};

    public static void main(String[] args) {
        sumOfOneChord();
        sumOfStrainsAndChanges();
        silentIsAsOpen();
        oneOfTheFirstSixHands();
        firstOfLikeRows();
        someChordHasNoHand();
        noChords();
        whatWasPlayedStays();
        playRefuses();
        playAtEachBar();
        eachBarHasItsOwnRow();
        easiestIsTheLeastSum();
        easiestOfLikeOnes();
        easiestOfBarsWithHands();
        easiestThereIsNone();
        playedOfNothing();
        playedHasNoChord();
        playedBar();
        playedOfTheLatest();
        longestSong();
        Checks.end();
    }

    private static ChordMover strung(String song, int... pitches) {
        ChordMover x = Checks.withSong(song);
        Checks.strings(x, pitches);
        return x;
    }

    /** The BAR, then the HANDS' numbers. */
    private static String playedRow(ChordMover x) {
        StringBuilder row = new StringBuilder().append(x.played(-1)).append(':');
        for (int i = 0; i < x.count(0); i++) {
            row.append(' ').append(x.played(i));
        }
        return row.toString();
    }

    private static void sumOfOneChord() {
        Checks.sentence("15 play: the sum (of one CHORD there is no CHANGE)");
        ChordMover x = strung("[C]", 0, 4, 7);
        Checks.due("a sum of 0", x.play(0), 0);
        Checks.due("is played", playedRow(x), "0: 0");
        Checks.due("one finger at 4", strung("[E]", 0, 4, 7).play(0), 3 + 4);
    }

    private static void sumOfStrainsAndChanges() {
        Checks.sentence("the sum of all STRAINS and of the CHANGES between each and the next is the least");
        ChordMover x = strung("[C][G][C]", 0, 4, 7);
        Checks.due("000 777 000", x.play(0), 0 + 21 + 10 + 21 + 0);
        ChordMover y = strung("[C][G]", 3, 7, 10);
        Checks.due("999 444", y.play(0), 12 + 15 + 7);
        Checks.due("and at 4: 555 000", y.play(4), 8 + 15 + 0);
    }

    private static void silentIsAsOpen() {
        Checks.sentence("CHANGE: how far their FRETS are apart (NONE is as 0)");
        ChordMover x = strung("[Em][Dm]", 11, 9, 1, 0);
        Checks.due("hands of Em", Checks.hands(x, 0, 0), "0x64 0764");
        Checks.due("hands of Dm", Checks.hands(x, 1, 0), "3042 x042");
        Checks.due("0x64 x042", x.play(0), 16 + 0 + 0 + 2 + 2 + 14);
        Checks.due("its row", playedRow(x), "0: 0 1");
    }

    private static void oneOfTheFirstSixHands() {
        Checks.sentence("PLAYED: for each CHORD of the song one of its first 6 HANDS");
        ChordMover x = strung("[Am][G]", 4, 11, 7, 9);
        Checks.due("hands of Am", Checks.hands(x, 0, 0), "555x 5557 5550 x550 5x57 5523");
        Checks.due("hands of G", Checks.hands(x, 1, 0), "3005 x005 3302 x302 7005 3045");
        Checks.due("a seventh would make it 31", x.play(0), 35);
        Checks.due("its row", playedRow(x), "0: 0 2");
    }

    private static void firstOfLikeRows() {
        Checks.sentence("of like ones the first as a row of the HANDS' numbers");
        ChordMover x = strung("[Dm][Dm7]", 1, 6, 8, 5);
        Checks.due("hands of Dm", Checks.hands(x, 0, 0), "1x10 1310 13x0");
        Checks.due("hands of Dm7", Checks.hands(x, 1, 0), "1340 1x40");
        Checks.due("0 1 and 1 0 alike", x.play(0), 11 + 3 + 14);
        Checks.due("0 1 is ahead", playedRow(x), "0: 0 1");
        ChordMover y = strung("[G7][Dm7]", 3, 4, 9, 1);
        Checks.due("1 1 and 2 0 alike", y.play(0), 50);
        Checks.due("1 1 is ahead", playedRow(y), "0: 1 1");
        ChordMover z = strung("[Dm][F]", 2, 5, 8);
        Checks.due("hands of F", Checks.hands(z, 1, 0), "344 704");
        Checks.due("0 0 and 0 1 alike", z.play(0), 4 + 10 + 13);
        Checks.due("0 0 is ahead", playedRow(z), "0: 0 0");
        ChordMover w = strung("[F][Dm]", 2, 5, 8);
        Checks.due("0 0 and 1 0 alike", w.play(0), 13 + 10 + 4);
        Checks.due("0 0 is ahead", playedRow(w), "0: 0 0");
    }

    private static void someChordHasNoHand() {
        Checks.sentence("15 play: NONE: some CHORD has no HAND there");
        ChordMover first = strung("[C9/F][C][C]", 0, 4, 7);
        Checks.due("the first has none", first.play(0), -1);
        ChordMover middle = strung("[C][C9/F][C]", 0, 4, 7);
        Checks.due("the middle has none", middle.play(0), -1);
        ChordMover last = strung("[C][C][C9/F]", 0, 4, 7);
        Checks.due("the last has none", last.play(0), -1);
        Checks.due("nothing is played", playedRow(last), "-1: -1 -1 -1");
        Checks.due("no strings", Checks.withSong("[C]").play(0), -1);
    }

    private static void noChords() {
        Checks.sentence("15 play: NONE: there are no CHORDS");
        Checks.due("words alone", strung("words", UKULELE).play(0), -1);
        Checks.due("an empty song", strung("", UKULELE).play(7), -1);
        ChordMover x = new ChordMover();
        Checks.strings(x, UKULELE);
        Checks.due("no song", x.play(0), -1);
        Checks.due("nothing is played", x.played(-1), -1);
    }

    private static void whatWasPlayedStays() {
        Checks.sentence("15 play: NONE, and what was PLAYED stays");
        ChordMover x = strung("[C][G]", 0, 4, 7);
        x.play(7);
        String before = playedRow(x);
        Checks.due("no hand at 1", x.play(1), -1);
        Checks.due("what was played", playedRow(x), before);
        ChordMover y = strung("[Dm][Dm7]", 1, 6, 8, 5);
        y.play(0);
        Checks.due("no hand at 2", y.play(2), -1);
        Checks.due("its hands", playedRow(y), "0: 0 1");
    }

    private static void playRefuses() {
        Checks.sentence("15 play: IllegalArgumentException: no such BAR");
        ChordMover x = strung("[C]", UKULELE);
        x.play(3);
        Checks.refusesArguments("play", x, x::play, -1, 8, 9);
        Checks.due("what was played stays", x.played(-1), 3);
        ChordMover bare = new ChordMover();
        Checks.refusesArguments("play of a new object", bare, bare::play, -1, 8);
        ChordMover words = strung("words", UKULELE);
        Checks.refusesArguments("play of words alone", words, words::play, -1, 8);
    }

    private static void playAtEachBar() {
        Checks.sentence("15 play: The song is PLAYED at a BAR (0 to 7)");
        ChordMover x = strung("[C]", 0, 4, 7);
        int[] sums = {0, -1, -1, 12, 11, 10, 9, 8};
        int[] bars = {0, 0, 0, 3, 4, 5, 6, 7};
        for (int bar = 0; bar <= 7; bar++) {
            Checks.due("play(" + bar + ")", x.play(bar), sums[bar]);
            Checks.due("its bar", x.played(-1), bars[bar]);
        }
    }

    private static void eachBarHasItsOwnRow() {
        Checks.sentence("PLAYED at a BAR: for each CHORD one of its HANDS there");
        ChordMover x = strung("[Dm][G]", 2, 12, 10, 6);
        int[] sums = {33, 49, 47, 45, 38, 36, 45, 42};
        String[] rows = {"0: 1 0", "1: 0 0", "2: 0 0", "3: 0 1", "4: 0 1", "5: 2 0", "6: 2 0", "7: 4 0"};
        for (int k = 0; k < 16; k++) {
            int bar = k < 8 ? k : 15 - k;
            Checks.due("play(" + bar + ")", x.play(bar), sums[bar]);
            Checks.due("its row", playedRow(x), rows[bar]);
        }
        x.play(7);
        Checks.due("easiest", x.easiest(), 0);
        Checks.due("its row, not that of a bar behind", playedRow(x), rows[0]);
    }

    private static void easiestIsTheLeastSum() {
        Checks.sentence("EASIEST: the BAR of the least sum");
        Checks.due("the first bar", strung("[C]", 0, 4, 7).easiest(), 0);
        Checks.due("one between", strung("[E]", 0, 4, 7).easiest(), 4);
        Checks.due("the last bar", strung("[G]", 0, 4, 7).easiest(), 7);
        Checks.due("none is behind the last", strung("[Ab]", 0, 4, 7).easiest(), 7);
        ChordMover x = strung("[C][G]", 3, 7, 10);
        Checks.due("sums 34 32 30 28 23 - - 38", x.easiest(), 4);
        Checks.due("it is played", playedRow(x), "4: 0 0");
        x.play(7);
        Checks.due("again", x.easiest(), 4);
        Checks.due("in the other's place", x.played(-1), 4);
    }

    private static void easiestOfLikeOnes() {
        Checks.sentence("EASIEST: (the least of like ones)");
        ChordMover x = strung("[Am]", 5, 16, 12);
        Checks.due("7 at 0", x.play(0), 7);
        Checks.due("7 at 4", x.play(4), 7);
        Checks.due("the least", x.easiest(), 0);
        Checks.due("is played", x.played(-1), 0);
        ChordMover y = strung("[Am]", 9, 13, 2);
        Checks.due("7 at 3", y.play(3), 7);
        Checks.due("7 at 7", y.play(7), 7);
        Checks.due("the least", y.easiest(), 3);
    }

    private static void easiestOfBarsWithHands() {
        Checks.sentence("EASIEST: a BAR where some CHORD has no HAND has no sum");
        ChordMover x = strung("[C][Am]", 0, 4, 9);
        int[] sums = {-1, -1, -1, 43, 41, 39, 37, 32};
        for (int bar = 0; bar <= 7; bar++) {
            Checks.due("play(" + bar + ")", x.play(bar), sums[bar]);
        }
        Checks.due("easiest", x.easiest(), 7);
    }

    private static void easiestThereIsNone() {
        Checks.sentence("16 easiest: NONE: there is none");
        ChordMover x = strung("[C][C9/F]", 0, 4, 7);
        Checks.due("a chord without a hand", x.easiest(), -1);
        Checks.due("nothing is played", playedRow(x), "-1: -1 -1");
        Checks.due("no strings", Checks.withSong("[C]").easiest(), -1);
        Checks.due("words alone", strung("words", UKULELE).easiest(), -1);
        Checks.due("an empty song", strung("", UKULELE).easiest(), -1);
        ChordMover y = new ChordMover();
        Checks.strings(y, UKULELE);
        Checks.due("no song", y.easiest(), -1);
        Checks.due("nothing is played", y.played(-1), -1);
    }

    private static void playedOfNothing() {
        Checks.sentence("17 played: NONE: nothing is PLAYED");
        ChordMover x = strung("[C]", UKULELE);
        for (int i : new int[] {Integer.MIN_VALUE, -2, -1, 0, 1, 60, Integer.MAX_VALUE}) {
            Checks.due("played(" + i + ")", x.played(i), -1);
        }
        x.hands(0, 0);
        Checks.due("hands() plays nothing", x.played(0), -1);
    }

    private static void playedHasNoChord() {
        Checks.sentence("17 played: NONE: there is no such CHORD");
        ChordMover x = strung("[C][G]", 0, 4, 7);
        x.play(7);
        for (int i : new int[] {Integer.MIN_VALUE, -2, 2, 3, 59, 60, Integer.MAX_VALUE}) {
            Checks.due("played(" + i + ")", x.played(i), -1);
        }
        Checks.due("the last there is", x.played(1), 0);
    }

    private static void playedBar() {
        Checks.sentence("17 played: i NONE: the BAR");
        ChordMover x = strung("[C]", 0, 4, 7);
        x.play(0);
        Checks.due("the least", x.played(-1), 0);
        x.play(7);
        Checks.due("the greatest", x.played(-1), 7);
    }

    private static void playedOfTheLatest() {
        Checks.sentence("17 played: Which of its HANDS the i-th CHORD is PLAYED with");
        ChordMover x = strung("[C]a[Am]b[F]c[G7]d[C]\n[Dm]long[Em]er[Bdim7]word[Cmaj7/G]s", UKULELE);
        x.play(0);
        Checks.due("easiest", x.easiest(), 5);
        Checks.due("its row", playedRow(x), "5: 2 0 1 0 3 0 0 0 0");
    }

    private static void longestSong() {
        Checks.sentence("PLAYED: of 60 CHORDS");
        ChordMover x = strung("[C][G]".repeat(30), 0, 4, 7);
        Checks.due("000 and 777, thirty times", x.play(0), 30 * 10 + 59 * 21);
        Checks.due("the last", x.played(59), 0);
        Checks.due("none behind it", x.played(60), -1);
        Checks.due("at 7: 555 and 000", x.easiest(), 7);
    }
}
