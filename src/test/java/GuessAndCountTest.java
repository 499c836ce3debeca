/** Promises 18 and 19: guess, count. */
public final class GuessAndCountTest {
    public static void main(String[] args) {
        guess();
        guessOfEachKey();
        guessLeavesTheKey();
        count();
        Checks.end();
    }

    private static void guesses(String song, int want) {
        Checks.due("guess of " + song, Checks.withSong(song).guess(), want);
    }

    private static void guess() {
        guesses("", -100);
        guesses("[C][G][Am]", -100);
        guesses("[C][F][G]", 0);
        guesses("[C][F][G][D][D]", 1);
        guesses("[G7]", 0);
        guesses("[C]", -100);
        guesses("[Caug]", -100);
        guesses("[G7][Caug][Daug]", 0);
        guesses("[C#7]", -100);
        guesses("[Db7][G7][G7]", 0);
        guesses("[C/F#]", 1);
        guesses("[C/Gb][C/F]", -100);
    }

    /** KEYS of six # and six b sound alike, so neither is guessed. */
    private static void guessOfEachKey() {
        for (int n = 0; n < 12; n++) {
            ChordMover x = Checks.withSong("[G7][C]");
            int key = x.move(n);
            Checks.due("guess of key " + key, x.guess(), key == 6 ? -100 : key);
        }
    }

    private static void guessLeavesTheKey() {
        ChordMover x = Checks.withSong("[D7]");
        x.key(4);
        Checks.due("guess", x.guess(), 1);
        Checks.due("the key stays", x.count(2), 4);
    }

    private static void count() {
        ChordMover x = Checks.withSong("[C]a\n[G]b\nc");
        Checks.strings(x, 1, 2, 3, 4);
        x.key(-3);
        x.name(0);
        Checks.feed(x, "abc");
        int[] want = {2, 3, -3, 4, 1, 20};
        for (int what = 0; what < want.length; what++) {
            Checks.due("count(" + what + ")", x.count(what), want[what]);
        }
        x.write();
        Checks.due("bytes of the song written", x.count(4), "C\na\nG\nb\nc".length());
        Checks.hasNone("count(6)", () -> x.count(6));
        Checks.hasNone("count(-1)", () -> x.count(-1));
    }
}
