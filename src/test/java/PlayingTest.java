/** Promises 15 to 17: play, easiest, played. */
public final class PlayingTest {
    private static final int[] UKULELE = {7, 0, 4, 9};

    public static void main(String[] args) {
        playOfOneChord();
        playWeighsChanges();
        playTakesTheFirstOfLikeRows();
        playWithoutHands();
        playRefuses();
        easiest();
        easiestOfLikeBars();
        longestSong();
        easiestWithout();
        played();
        Checks.end();
    }

    private static void playOfOneChord() {
        ChordMover x = Checks.withSong("[C]");
        Checks.strings(x, UKULELE);
        Checks.due("the least strain", x.play(0), 4);
        Checks.due("its hand", x.played(0), 0);
        Checks.due("the bar", x.played(-1), 0);
    }

    /** The HANDS of the first CHORDS, each its FRETS and behind them its STRAIN. */
    private static int[][][] handsOf(ChordMover x, int chords, int bar) {
        int strings = x.count(3);
        int[][][] hands = new int[chords][][];
        for (int i = 0; i < chords; i++) {
            hands[i] = new int[x.hands(i, bar)][strings + 1];
            for (int j = 0; j < hands[i].length; j++) {
                for (int s = 0; s <= strings; s++) {
                    hands[i][j][s] = x.fret(i, bar, j, s == strings ? ChordMover.NONE : s);
                }
            }
        }
        return hands;
    }

    /** The sum of a row of HANDS; a song that is longer than the HANDS told repeats their CHORDS. */
    private static int sumOf(int[][][] hands, int[] row) {
        int sum = 0;
        for (int i = 0; i < row.length; i++) {
            int[] hand = hands[i % hands.length][row[i]];
            int strings = hand.length - 1;
            sum += hand[strings];
            for (int s = 0; i > 0 && s < strings; s++) {
                int ahead = hands[(i - 1) % hands.length][row[i - 1]][s];
                sum += Math.abs(Math.max(0, ahead) - Math.max(0, hand[s]));
            }
        }
        return sum;
    }

    /** All rows of HANDS, in their order: the sum of the first of the least, and that row. */
    private static int leastRow(int[][][] hands, int[] best) {
        int[] row = new int[best.length];
        int least = -1;
        for (boolean more = true; more;) {
            int sum = sumOf(hands, row);
            if (least < 0 || sum < least) {
                least = sum;
                System.arraycopy(row, 0, best, 0, row.length);
            }
            int i = row.length - 1;
            while (i >= 0 && ++row[i] == hands[i].length) {
                row[i--] = 0;
            }
            more = i >= 0;
        }
        return least;
    }

    private static void playsLikeAllRows(String song, int bar, int... pitches) {
        ChordMover x = Checks.withSong(song);
        Checks.strings(x, pitches);
        int[] row = new int[x.count(0)];
        Checks.due("sum of " + song, x.play(bar), leastRow(handsOf(x, row.length, bar), row));
        for (int i = 0; i < row.length; i++) {
            Checks.due("hand " + i + " of " + song, x.played(i), row[i]);
        }
    }

    private static void playWeighsChanges() {
        playsLikeAllRows("[C][G][Am][F]", 0, UKULELE);
        playsLikeAllRows("[Am7][D7][Gmaj7][C6]", 3, 40, 45, 50, 55, 59, 60);
        playsLikeAllRows("[Bb/F][Ebm][Cdim][Fsus4]", 1, 40, 45, 50, 55);
    }

    private static void playTakesTheFirstOfLikeRows() {
        ChordMover x = Checks.withSong("[C][C]");
        Checks.strings(x, 0, 4, 7, 7);
        x.play(0);
        Checks.due("first", x.played(0), 0);
        Checks.due("second", x.played(1), 0);
        playsLikeAllRows("[C/E][C/E][C/E]", 2, 10, 2, 5, 10, 5);
        playsLikeAllRows("[Caug][Eaug][G#aug]", 0, 0, 4, 8, 0, 4);
        playsLikeAllRows("[Cdim7][Ebdim7][F#dim7]", 0, 0, 3, 6, 9, 0, 3);
    }

    private static void playWithoutHands() {
        ChordMover x = Checks.withSong("[C][F#9/A#][G]");
        Checks.strings(x, 0, 4, 7);
        Checks.due("some chord has no hand", x.hands(1, 0), 0);
        Checks.due("play then", x.play(0), -1);
        Checks.due("nothing is played", x.played(-1), -1);
        Checks.due("nor a chord", x.played(0), -1);
        ChordMover y = Checks.withSong("[C]");
        Checks.due("no strings", y.play(0), -1);
        Checks.due("no chords", Checks.withSong("words").play(0), -1);
        ChordMover z = Checks.withSong("[C]");
        Checks.strings(z, 3, 7, 10);
        Checks.due("a hand at 0", z.play(0), 12);
        ChordMover w = Checks.withSong("[C]");
        Checks.strings(w, 0, 4, 7);
        w.play(0);
        Checks.due("no hand at 1", w.hands(0, 1), 0);
        Checks.due("play at 1", w.play(1), -1);
        Checks.due("what was played stays", w.played(-1), 0);
        Checks.due("its hands too", w.played(0), 0);
    }

    private static void playRefuses() {
        ChordMover x = Checks.withSong("[C]");
        Checks.strings(x, UKULELE);
        x.play(3);
        Checks.refusesArgument("play(8)", () -> x.play(8));
        Checks.refusesArgument("play(-1)", () -> x.play(-1));
        Checks.due("what was played stays", x.played(-1), 3);
        Checks.refusesArgument("play(8) without a song", () -> new ChordMover().play(8));
    }

    private static void easiest() {
        ChordMover x = Checks.withSong("[Eb][Ab][Bb7]");
        Checks.strings(x, UKULELE);
        int best = -1;
        int least = -1;
        for (int bar = 0; bar < 8; bar++) {
            int sum = x.play(bar);
            if (sum >= 0 && (least < 0 || sum < least)) {
                least = sum;
                best = bar;
            }
        }
        x.play(7);
        Checks.due("easiest", x.easiest(), best);
        Checks.due("it is played", x.played(-1), best);
        int[] row = {x.played(0), x.played(1), x.played(2)};
        Checks.due("with its hands", sumOf(handsOf(x, 3, best), row), least);
        ChordMover y = Checks.withSong("[G]");
        Checks.strings(y, 0, 4, 7);
        Checks.due("all open", y.easiest(), 7);
        ChordMover w = Checks.withSong("[Ab]");
        Checks.strings(w, 0, 4, 7);
        Checks.due("no bar is at 8", w.easiest(), 7);
    }

    private static void easiestOfLikeBars() {
        ChordMover x = Checks.withSong("[Am]");
        Checks.strings(x, 5, 16, 12);
        Checks.due("400 at 0", x.play(0), 7);
        Checks.due("040 at 4", x.play(4), 7);
        Checks.due("the least of like bars", x.easiest(), 0);
        Checks.due("it is played", x.played(-1), 0);
        ChordMover y = Checks.withSong("[Am]");
        Checks.strings(y, 9, 13, 2);
        Checks.due("the least of 3 and 7", y.easiest(), 3);
    }

    /** As many CHORDS as a song can have, each call that goes over all of them. */
    private static void longestSong() {
        ChordMover x = Checks.withSong("[C][G][Am][F][Dm7][E7]".repeat(10));
        Checks.strings(x, 40, 45, 50, 55, 59, 60);
        int bar = x.easiest();
        Checks.due("played at its bar", x.play(bar) > 0 ? x.played(-1) : -1, bar);
        int[] row = new int[60];
        for (int i = 0; i < 60; i++) {
            row[i] = x.played(i);
        }
        Checks.due("the sum of its hands", sumOf(handsOf(x, 6, bar), row), x.play(bar));
        Checks.due("no 61st chord", x.played(60), -1);
        Checks.due("move", x.move(2), 2);
        Checks.due("the last chord", x.chord(59, 0), 6);
        Checks.due("guess", x.guess(), 2);
        Checks.due("write", x.write() > 0 ? x.told(0) : -1, 'D');
    }

    private static void easiestWithout() {
        ChordMover x = Checks.withSong("[C9/F]");
        Checks.strings(x, 0, 4, 7);
        Checks.due("no bar at all", x.easiest(), -1);
        Checks.due("nothing is played", x.played(-1), -1);
        Checks.due("no chords", Checks.withSong("words").easiest(), -1);
    }

    private static void played() {
        ChordMover x = Checks.withSong("[C][G]");
        Checks.due("nothing is played", x.played(0), -1);
        Checks.strings(x, UKULELE);
        x.play(0);
        Checks.due("played(2)", x.played(2), -1);
        Checks.due("played(-2)", x.played(-2), -1);
        Checks.due("played(greatest)", x.played(Integer.MAX_VALUE), -1);
        Checks.due("played(least)", x.played(Integer.MIN_VALUE), -1);
        x.write();
        x.name(0);
        x.guess();
        x.hands(0, 5);
        Checks.due("other calls leave it", x.played(-1), 0);
        Checks.due("the hand of the first", x.played(0) >= 0 ? 1 : 0, 1);
    }
}
