/** Boundary cases of promises 9 and 10 and of WRITTEN: one test for each sentence. */
public final class WritingEdgesTest {
    public static void main(String[] args) {
        nothingToWrite();
        lineWithoutChords();
        twoLinesWithChords();
        aboveThePlaceOfTheLowerOne();
        oneBlankBehindTheNameAhead();
        firstNameOfALineIsNeverPushed();
        hyphensBetweenLettersOnly();
        chordsAside();
        bytesAheadAndNextOfTheLineAlone();
        upperLineNoLongerThanNeeded();
        tenBetweenLines();
        outBecomesTheSong();
        longestIsKept();
        toldHasNone();
        Checks.end();
    }

    private static void writes(String text, String want) {
        Checks.due("write of " + text, Checks.written(Checks.withSong(text)), want);
    }

    private static void nothingToWrite() {
        Checks.sentence("9 write: how many bytes (no song, an empty song)");
        ChordMover x = new ChordMover();
        Checks.due("no song", x.write(), 0);
        Checks.due("nothing in OUT", x.count(4), 0);
        writes("", "");
    }

    private static void lineWithoutChords() {
        Checks.sentence("WRITTEN: each LINE: without CHORDS its WORDS alone");
        writes("a", "a");
        writes(" ", " ");
        writes("a\n\nb", "a\n\nb");
        writes("\n".repeat(39), "\n".repeat(39));
    }

    private static void twoLinesWithChords() {
        Checks.sentence("else two: its NAMES, and below its WORDS");
        writes("[C]", "C\n");
        writes("[C]\n", "C\n\n");
        writes("\n[C]", "\nC\n");
        writes("[C]\n[G]", "C\n\nG\n");
        writes("a\n[C]b\nc", "a\nC\nb\nc");
        writes(" [C] ", " C\n  ");
    }

    private static void aboveThePlaceOfTheLowerOne() {
        Checks.sentence("a CHORD stands above the place that the lower one has come to");
        writes("[C]abc", "C\nabc");
        writes("a[C]bc", " C\nabc");
        writes("abc[C]", "   C\nabc");
        writes("a[C]bc[G]def[D]g", " C G  D\nabcdefg");
    }

    private static void oneBlankBehindTheNameAhead() {
        Checks.sentence("if that is not at least one blank behind the name ahead, the lower one is filled up to there");
        writes("[C]abc[G]d", "C  G\nabcd");
        writes("[C]ab[G]c", "C G\nabc");
        writes("[C]a[G]b", "C G\na-b");
        writes("[C][G]b", "C G\n  b");
        writes("[Cmaj7]abcdef[G]g", "Cmaj7 G\nabcdefg");
        writes("[Cmaj7]abcde[G]f", "Cmaj7 G\nabcde-f");
        writes("[C][G][D]", "C G D\n    ");
        writes("[C]a[G]b[D]c", "C G D\na-b-c");
    }

    private static void firstNameOfALineIsNeverPushed() {
        Checks.sentence("a name ahead is one of the same LINE");
        writes("[Cmaj7]\n[G]a", "Cmaj7\n\nG\na");
        writes("a\n[G]b", "a\nG\nb");
        writes("[Cmaj7]a\n[G]b", "Cmaj7\na\nG\nb");
    }

    private static void hyphensBetweenLettersOnly() {
        Checks.sentence("with - if the WORDS' byte ahead and the next one are letters (A to Z, a to z), else with blanks");
        for (int sign = 32; sign <= 126; sign++) {
            if (sign != '[' && sign != ']') {
                boolean letter = sign >= 'A' && sign <= 'Z' || sign >= 'a' && sign <= 'z';
                String fill = letter ? "-" : " ";
                String byteOf = Character.toString(sign);
                writes("[C]" + byteOf + "[G]x", "C G\n" + byteOf + fill + "x");
                writes("[C]x[G]" + byteOf, "C G\nx" + fill + byteOf);
            }
        }
    }

    private static void chordsAside() {
        Checks.sentence("the WORDS' byte ahead and the next one (CHORDS aside)");
        writes("a[C][G]b", " C G\na--b");
        writes("a[C][G][D]b", " C G D\na----b");
        writes("a[C][G][D] b", " C G D\na     b");
        writes("a [C][G][D]b", "  C G D\na     b");
    }

    private static void bytesAheadAndNextOfTheLineAlone() {
        Checks.sentence("without a byte ahead or a next one in the LINE the fill is blanks");
        writes("[C][G]a", "C G\n  a");
        writes("[C]a[G]", "C G\na ");
        writes("[C]a[G]\nb", "C G\na \nb");
        writes("a\n[C][G]b", "a\nC G\n  b");
        writes("[C][G]", "C G\n  ");
    }

    private static void upperLineNoLongerThanNeeded() {
        Checks.sentence("(The upper one is as long as its last NAME needs.)");
        writes("[C]long words   ", "C\nlong words   ");
        writes("[C]a[G]long words", "C G\na-long words");
        writes("a[Cmaj7]", " Cmaj7\na");
    }

    private static void tenBetweenLines() {
        Checks.sentence("Lines have 10 between");
        ChordMover x = Checks.withSong("[C]a\nb");
        x.write();
        Checks.due("behind the names", x.told(1), 10);
        Checks.due("behind the words", x.told(3), 10);
        Checks.due("none behind the last", x.count(4), 5);
    }

    private static void outBecomesTheSong() {
        Checks.sentence("9 write: OUT becomes the song WRITTEN (nothing of what it was is left)");
        ChordMover x = Checks.withSong("[Cmaj7/G]a");
        x.name(0);
        Checks.song(x, "b");
        Checks.due("a song shorter than OUT was", Checks.written(x), "b");
        x.song(0);
        Checks.due("OUT stays until it is written", Checks.told(x), "b");
        Checks.due("an empty song", x.write(), 0);
        Checks.due("bytes of OUT", x.count(4), 0);
    }

    /** No TEXT of 1200 bytes is WRITTEN with 4,000: 2,752 is near the most. */
    private static void longestIsKept() {
        Checks.sentence("9 write: how many bytes (the first 4,000 are kept)");
        ChordMover x = Checks.withSong("w".repeat(900) + "[C/G]".repeat(60));
        x.key(-7);
        x.move(7);
        Checks.due("a longest song", x.write(), 2752);
        Checks.due("all are kept", x.count(4), 2752);
        Checks.due("the last of the names", x.told(900 + 60 * 7 + 59 - 1), '#');
        Checks.due("the 10 behind them", x.told(900 + 60 * 7 + 59), 10);
        Checks.due("the last byte", x.told(2751), ' ');
        Checks.hasNone("the byte behind", () -> x.told(2752));
        Checks.hasNone("the byte 4,000", () -> x.told(4000));
    }

    private static void toldHasNone() {
        Checks.sentence("10 told: NoSuchElementException: there is none that is kept");
        ChordMover x = Checks.withSong("[C]a");
        Checks.hasNoneOf("told of an empty OUT", x, x::told, -1, 0, 1);
        x.write();
        Checks.due("the first", x.told(0), 'C');
        Checks.due("the last", x.told(2), 'a');
        Checks.hasNoneOf("told", x, x::told, -1, 3, 4, 3999, 4000);
    }
}
