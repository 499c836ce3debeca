/** Promises 1 to 4: a new object, feed, song, fault. */
public final class ReadingTest {
    public static void main(String[] args) {
        newObject();
        feed();
        songCountsItsParts();
        songKeepsTheOneAheadAtAFault();
        songRefusesWrongLengths();
        songLooksAtItsBytesAlone();
        faultsOfWords();
        faultsOfNames();
        faultsOfLimits();
        fault();
        Checks.end();
    }

    private static void newObject() {
        ChordMover x = new ChordMover();
        Checks.due("NONE", ChordMover.NONE, -1);
        for (int what = 0; what <= 5; what++) {
            Checks.due("count of a new object", x.count(what), 0);
        }
        Checks.due("fault of a new object", x.fault(0), 0);
        Checks.due("place of a new object", x.fault(1), -1);
        Checks.due("write of a new object", x.write(), 0);
        Checks.due("played of a new object", x.played(-1), -1);
        Checks.due("play of a new object", x.play(0), -1);
        Checks.due("easiest of a new object", x.easiest(), -1);
        Checks.due("guess of a new object", x.guess(), -100);
        Checks.hasNone("chord of a new object", () -> x.chord(0, 0));
        Checks.hasNone("told of a new object", () -> x.told(0));
    }

    private static void feed() {
        ChordMover x = new ChordMover();
        Checks.due("feed", x.feed(0x61626364, 0x65666768, 0x696a6b6c, 0x6d6e6f70, 0x71727374), 20);
        x.song(20);
        Checks.due("bytes in their order", Checks.written(x), "abcdefghijklmnopqrst");
        for (int k = 1; k <= 60; k++) {
            Checks.due("feed " + k, x.feed(-1, -1, -1, -1, -1), 20 * k);
        }
        Checks.due("feed of a full tape", x.feed(0, 0, 0, 0, 0), -1);
        Checks.due("a full tape stays", x.count(5), 1200);
        Checks.due("a byte of 255 is one byte", x.song(1), 1);
        Checks.due("and its place is told", x.fault(1), 0);
        Checks.due("the tape is empty behind a fault too", x.count(5), 0);
    }

    private static void songCountsItsParts() {
        ChordMover x = Checks.withSong("[C]a\n\n[G]b\n");
        Checks.due("chords", x.count(0), 2);
        Checks.due("lines", x.count(1), 4);
        Checks.due("the tape is empty then", x.count(5), 0);
        Checks.due("line of a chord", x.chord(1, 4), 2);
        ChordMover empty = new ChordMover();
        Checks.due("song(0) of an empty tape", empty.song(0), 0);
        Checks.due("it has a line", empty.count(1), 1);
        Checks.due("of no byte", empty.write(), 0);
        Checks.due("a whole tape", Checks.song(x, "w".repeat(1200)), 0);
        Checks.due("all of it", x.write(), 1200);
        Checks.song(x, "[C]long [G]song\n[D]here");
        Checks.song(x, "[A]b");
        Checks.song(x, "[E]c");
        Checks.due("nothing of songs ahead is left", Checks.written(x), "E\nc");
        Checks.due("nor a chord", x.count(0), 1);
    }

    private static void songKeepsTheOneAheadAtAFault() {
        ChordMover x = Checks.withSong("[C]a");
        Checks.strings(x, 7, 0, 4, 9);
        x.play(0);
        Checks.due("a fault", Checks.song(x, "[G]b\n[D]]"), 1);
        Checks.due("the song ahead stays", Checks.written(x), "C\na");
        Checks.due("what is played stays", x.played(-1), 0);
        Checks.due("no fault", Checks.song(x, "[C]a"), 0);
        Checks.due("nothing is played then", x.played(-1), -1);
    }

    private static void songRefusesWrongLengths() {
        ChordMover x = Checks.withSong("[C]a");
        Checks.song(x, "]");
        Checks.feed(x, "[G]b");
        Checks.refusesArgument("song(21) of 20", () -> x.song(21));
        Checks.refusesArgument("song(-1)", () -> x.song(-1));
        Checks.refusesArgument("song(least)", () -> x.song(Integer.MIN_VALUE));
        Checks.refusesArgument("song(greatest)", () -> x.song(Integer.MAX_VALUE));
        Checks.due("the tape stays", x.count(5), 20);
        Checks.due("the fault stays", x.fault(0), 1);
        Checks.due("the song stays", Checks.written(x), "C\na");
        Checks.due("all twenty", x.song(20), 0);
    }

    private static void songLooksAtItsBytesAlone() {
        ChordMover x = new ChordMover();
        Checks.feed(x, "[Cmaj7]");
        Checks.due("a kind cut off", x.song(5), 1);
        Checks.due("its place", x.fault(1), 3);
        Checks.feed(x, "[C##]");
        Checks.due("a note cut off", x.song(3), 1);
        Checks.due("the text's length", x.fault(1), 3);
    }

    private static void faultAt(String text, int number, int place) {
        ChordMover x = new ChordMover();
        Checks.due("fault of " + text, Checks.song(x, text), number);
        Checks.due("fault(0) of " + text, x.fault(0), number);
        Checks.due("fault(1) of " + text, x.fault(1), place);
    }

    private static void faultsOfWords() {
        faultAt(" ~!", 0, -1);
        faultAt("ab\t", 1, 2);
        faultAt("ab" + (char) 31, 1, 2);
        faultAt("ab" + (char) 127, 1, 2);
        faultAt("ab" + (char) 233, 1, 2);
        faultAt("a" + (char) 0, 1, 1);
        faultAt("a\r\n", 1, 1);
        faultAt("a]b", 1, 1);
        faultAt("[C]]", 1, 3);
        faultAt("[C]\n]", 1, 4);
    }

    private static void faultsOfNames() {
        faultAt("[", 1, 1);
        faultAt("[]", 1, 1);
        faultAt("[[C]", 1, 1);
        faultAt("[H]", 1, 1);
        faultAt("[@]", 1, 1);
        faultAt("[c]", 1, 1);
        faultAt("[C", 1, 2);
        faultAt("[C\n]", 1, 2);
        faultAt("[Cb#]", 1, 3);
        faultAt("[C#b]", 1, 3);
        faultAt("[C###]", 1, 4);
        faultAt("[Cbbb]", 1, 4);
        faultAt("[Cmaj]", 1, 3);
        faultAt("[Csus]", 1, 2);
        faultAt("[Cdim6]", 1, 5);
        faultAt("[C67]", 1, 3);
        faultAt("[C/]", 1, 3);
        faultAt("[C/", 1, 3);
        faultAt("[C/G", 1, 4);
        faultAt("[C/g]", 1, 3);
        faultAt("[C/Gm]", 1, 4);
        faultAt("[C/G/C]", 1, 4);
        faultAt("[C ]", 1, 2);
        faultAt("[C[G]]", 1, 2);
    }

    private static void faultsOfLimits() {
        faultAt("[C]".repeat(60), 0, -1);
        faultAt("[C]".repeat(61), 2, 180);
        faultAt("[C]".repeat(60) + "[", 2, 180);
        faultAt("[C]".repeat(60) + "a[H]", 2, 181);
        faultAt("[C]".repeat(59) + "[[C]", 1, 178);
        faultAt("a\n".repeat(39), 0, -1);
        faultAt("a\n".repeat(40), 2, 79);
        faultAt("a\n".repeat(39) + "[C\n", 1, 80);
        faultAt("a\n".repeat(40) + "]", 2, 79);
        faultAt("]" + "a\n".repeat(40), 1, 0);
    }

    private static void fault() {
        ChordMover x = new ChordMover();
        Checks.song(x, "ab]");
        Checks.due("fault(0)", x.fault(0), 1);
        Checks.due("fault(1)", x.fault(1), 2);
        Checks.song(x, "ab");
        Checks.due("fault(0) without", x.fault(0), 0);
        Checks.due("fault(1) without", x.fault(1), -1);
        Checks.hasNone("fault(2)", () -> x.fault(2));
        Checks.hasNone("fault(-1)", () -> x.fault(-1));
    }
}
