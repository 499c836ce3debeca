/** Promises 9 and 10: write, told. */
public final class WritingTest {
    public static void main(String[] args) {
        linesWithoutChords();
        namesAboveTheirPlaces();
        wordsPushedApart();
        fillsOfHyphensAndBlanks();
        linesAreApart();
        movedNames();
        longSong();
        told();
        Checks.end();
    }

    private static void writes(String text, String want) {
        Checks.due("write of " + text, Checks.written(Checks.withSong(text)), want);
    }

    private static void linesWithoutChords() {
        writes("", "");
        writes("a b", "a b");
        writes("\n", "\n");
        writes("a\n\n b \n", "a\n\n b \n");
    }

    private static void namesAboveTheirPlaces() {
        writes("[C]", "C\n");
        writes("[C]la", "C\nla");
        writes("la[C]", "  C\nla");
        writes("la [Am]la [G]la", "   Am G\nla la la");
        writes("[C]a\nb\n[G]", "C\na\nb\nG\n");
    }

    private static void wordsPushedApart() {
        writes("[C]a[G]b", "C G\na-b");
        writes("[C]ab[G]c", "C G\nabc");
        writes("[Am7]x [F]y", "Am7 F\nx   y");
        writes("[C][G]", "C G\n  ");
        writes("[C][G]a", "C G\n  a");
        writes("[C]a[G]", "C G\na ");
        writes("  [C][G] ", "  C G\n     ");
    }

    private static void fillsOfHyphensAndBlanks() {
        writes("a[C][G]b", " C G\na--b");
        writes("a[C][G][D]b", " C G D\na----b");
        writes("a[Am]b[G] c", " Am G\nab   c");
        writes("a[Am]b [G]c", " Am G\nab  c");
        writes("a[Am]1[G]c", " Am G\na1  c");
        writes("a[Am]b[G]1", " Am G\nab  1");
        writes("[Am]Z[G]A", "Am G\nZ--A");
        writes("[Am]z[G]a", "Am G\nz--a");
        writes("[Am]@[G]a", "Am G\n@  a");
        writes("[Am]a[G]`", "Am G\na  `");
        writes("[Am]{[G]a", "Am G\n{  a");
        writes("[Am]a[G]^", "Am G\na  ^");
        writes("[Am]a-[G]b", "Am G\na- b");
        writes("[Am]a[G][D]b", "Am G D\na----b");
    }

    private static void linesAreApart() {
        writes("[C]a[G]\nb", "C G\na \nb");
        writes("a\n[C][G]b", "a\nC G\n  b");
        writes("[Cmaj7]\n[G]b", "Cmaj7\n\nG\nb");
    }

    private static void movedNames() {
        ChordMover x = Checks.withSong("[C]a[G]b");
        x.move(1);
        Checks.due("longer names", Checks.written(x), "Db Ab\na--b");
    }

    private static void longSong() {
        String text = "[Cb]".repeat(60) + "a".repeat(960);
        ChordMover x = Checks.withSong(text);
        Checks.due("names, one blank between, and all words", x.write(), 179 + 1 + 177 + 960);
        Checks.due("bytes that are kept", x.count(4), 179 + 1 + 177 + 960);
        Checks.due("the last one", x.told(179 + 177 + 960), 'a');
    }

    private static void told() {
        ChordMover x = Checks.withSong("[F#]a");
        x.name(0);
        Checks.due("told(0)", x.told(0), 'F');
        Checks.due("told(1)", x.told(1), '#');
        Checks.hasNone("told(2)", () -> x.told(2));
        Checks.hasNone("told(-1)", () -> x.told(-1));
        Checks.hasNone("told(greatest)", () -> x.told(Integer.MAX_VALUE));
        x.write();
        Checks.due("told(2) of the song", x.told(2), 10);
        Checks.song(x, "");
        Checks.due("OUT stays with another song", Checks.told(x), "F#\na");
        x.write();
        Checks.hasNone("told(0) of an empty song", () -> x.told(0));
    }
}
