/** Boundary cases of promises 1 to 4 and of TEXT and NAME: one test for each sentence. */
public final class ReadingEdgesTest {
    public static void main(String[] args) {
        noSongNoStrings();
        twentyBytesBehindTheTape();
        highestByteFirst();
        noneComeBeyond1200();
        firstBytesAreTheSong();
        nothingIsLeftOfSongsAhead();
        tapeIsEmptyThen();
        faultLeavesTheSongAhead();
        nothingIsPlayedBehindASong();
        songRefusesLengths();
        faultOfTheLatestSong();
        faultRefuses();
        textOfAtMost1200();
        oneLineMoreThanTens();
        bytesOfWords();
        closingWithoutOpening();
        letterOfTheRoot();
        letterOfTheBass();
        behindTheKind();
        behindTheBass();
        textEndsTooSoon();
        sixtyFirstChord();
        tenBehindTheFortiethLine();
        firstFaultAlongTheText();
        leastAtOnePlace();
        atMostTwoSigns();
        longestIsTaken();
        rootIsTheBassWithoutOne();
        Checks.end();
    }

    private static void faultAt(String text, int number, int place) {
        ChordMover x = new ChordMover();
        Checks.due("song of " + text, Checks.song(x, text), number);
        Checks.due("fault(0) of " + text, x.fault(0), number);
        Checks.due("fault(1) of " + text, x.fault(1), place);
    }

    private static ChordMover playedSong() {
        ChordMover x = Checks.withSong("[C]a\n[F]b");
        Checks.strings(x, 7, 0, 4, 9);
        x.key(3);
        x.write();
        x.play(2);
        Checks.due("a song is played", x.played(-1), 2);
        return x;
    }

    private static void noSongNoStrings() {
        Checks.sentence("1 a new object: No song, no STRINGS");
        ChordMover x = new ChordMover();
        for (int what = 0; what <= 5; what++) {
            Checks.due("count(" + what + ")", x.count(what), 0);
        }
        Checks.due("no line, not even an empty one", x.count(1), 0);
        Checks.due("fault(0)", x.fault(0), 0);
        Checks.due("fault(1)", x.fault(1), -1);
        Checks.due("guess", x.guess(), -100);
        Checks.due("play", x.play(0), -1);
        Checks.due("easiest", x.easiest(), -1);
        Checks.due("played bar", x.played(-1), -1);
        Checks.due("played chord", x.played(0), -1);
        Checks.due("unstring", x.unstring(), 0);
        Checks.due("key", x.key(0), 0);
        Checks.hasNone("chord", () -> x.chord(0, 0));
        Checks.hasNone("name", () -> x.name(0));
        Checks.hasNone("hands", () -> x.hands(0, 0));
        Checks.hasNone("fret", () -> x.fret(0, 0, 0, -1));
        Checks.hasNone("told", () -> x.told(0));
        Checks.due("write", x.write(), 0);
        Checks.hasNone("told behind write", () -> x.told(0));
        Checks.refusesArgument("song(1) of an empty tape", () -> x.song(1));
    }

    private static void twentyBytesBehindTheTape() {
        Checks.sentence("2 feed: Twenty bytes come behind the tape: how many it has");
        ChordMover x = new ChordMover();
        Checks.due("the first", x.feed(0x61616161, 0x61616161, 0x61616161, 0x61616161, 0x61616162), 20);
        Checks.due("the second", x.feed(0x63616161, 0x61616161, 0x61616161, 0x61616161, 0x61616161), 40);
        x.song(40);
        Checks.due("one behind the other", Checks.written(x), "a".repeat(19) + "bc" + "a".repeat(19));
    }

    private static void highestByteFirst() {
        Checks.sentence("2 feed: of each number the highest first");
        for (int place = 0; place < 20; place++) {
            int[] five = {0x61616161, 0x61616161, 0x61616161, 0x61616161, 0x61616161};
            five[place / 4] ^= 0xe1 << 24 - 8 * (place % 4);
            ChordMover x = new ChordMover();
            x.feed(five[0], five[1], five[2], five[3], five[4]);
            Checks.due("a byte of 128 at " + place, x.song(20), 1);
            Checks.due("its place", x.fault(1), place);
        }
    }

    private static void noneComeBeyond1200() {
        Checks.sentence("2 feed: NONE, and none come, if it would have more than 1,200");
        ChordMover x = new ChordMover();
        for (int k = 1; k <= 60; k++) {
            Checks.due("feed " + k, x.feed(0x61616161, 0x61616161, 0x61616161, 0x61616161, 0x61616161), 20 * k);
        }
        Checks.due("the 61st feed", x.feed(0, 0, 0, 0, 0), -1);
        Checks.due("and again", x.feed(0, 0, 0, 0, 0), -1);
        Checks.due("bytes of the tape", x.count(5), 1200);
        Checks.due("none of 0 came", x.song(1200), 0);
        Checks.due("feed behind a song", x.feed(0, 0, 0, 0, 0), 20);
    }

    private static void firstBytesAreTheSong() {
        Checks.sentence("3 song: The tape's first n bytes are the song");
        ChordMover x = new ChordMover();
        Checks.feed(x, "abcdefghijklmnopqrs]");
        Checks.due("song(19) of 20", x.song(19), 0);
        Checks.due("nineteen", Checks.written(x), "abcdefghijklmnopqrs");
        Checks.feed(x, "abcdefghijklmnopqrs]");
        Checks.due("song(20) of 20", x.song(20), 1);
        Checks.feed(x, "]");
        Checks.due("song(0) of 20", x.song(0), 0);
        Checks.due("no byte", x.write(), 0);
        Checks.due("but a line", x.count(1), 1);
    }

    private static void nothingIsLeftOfSongsAhead() {
        Checks.sentence("3 song: The tape's first n bytes are the song (and nothing of those ahead)");
        ChordMover x = Checks.withSong("[C]\n".repeat(30));
        Checks.due("a second one", Checks.song(x, "[G]a\n[D]b"), 0);
        Checks.due("a fault far behind", Checks.song(x, "[C]\n".repeat(39) + "]"), 1);
        Checks.due("a third one", Checks.song(x, "[E]c"), 0);
        Checks.due("its chords", x.count(0), 1);
        Checks.due("its lines", x.count(1), 1);
        Checks.due("its bytes", Checks.written(x), "E\nc");
        x.song(0);
        Checks.due("no chords of an empty one", x.count(0), 0);
        Checks.due("no bytes of it", x.write(), 0);
    }

    private static void tapeIsEmptyThen() {
        Checks.sentence("3 song: (it is empty then)");
        ChordMover x = new ChordMover();
        Checks.feed(x, "a".repeat(40));
        x.song(1);
        Checks.due("behind a song of its first byte", x.count(5), 0);
        Checks.refusesArgument("nothing of it is left", () -> x.song(1));
        Checks.feed(x, "]");
        x.song(1);
        Checks.due("behind a fault", x.count(5), 0);
        Checks.feed(x, "a");
        x.song(0);
        Checks.due("behind song(0)", x.count(5), 0);
        Checks.due("song(0) of an empty tape", x.song(0), 0);
        Checks.feed(x, "b");
        x.song(1);
        Checks.due("the next tape starts anew", Checks.written(x), "b");
    }

    private static void faultLeavesTheSongAhead() {
        Checks.sentence("3 song: or its FAULT (the song ahead stays)");
        ChordMover x = playedSong();
        String before = Checks.state(x);
        Checks.due("fault 1", Checks.song(x, "[G]c\n[Am]d\n[C/]"), 1);
        Checks.due("all but the fault", Checks.state(x).replace("fault 1 14", "fault 0 -1"), before);
        Checks.due("the song written", Checks.written(x), "C\na\nF\nb");
        ChordMover y = playedSong();
        Checks.due("fault 2", Checks.song(y, "[G]".repeat(61)), 2);
        Checks.due("all but the fault", Checks.state(y).replace("fault 2 180", "fault 0 -1"), before);
        ChordMover none = new ChordMover();
        Checks.song(none, "[G]]");
        Checks.due("no song ahead: no line", none.count(1), 0);
        Checks.due("no song ahead: no chord", none.count(0), 0);
        Checks.due("no song ahead: nothing written", none.write(), 0);
    }

    private static void nothingIsPlayedBehindASong() {
        Checks.sentence("3 song: nothing is PLAYED then, if it is 0");
        ChordMover x = playedSong();
        Checks.song(x, "[C]]");
        Checks.due("a fault leaves what is played", x.played(-1), 2);
        Checks.song(x, "[C]a\n[F]b");
        Checks.due("bar behind the same song", x.played(-1), -1);
        Checks.due("chord behind the same song", x.played(0), -1);
        ChordMover y = playedSong();
        y.song(0);
        Checks.due("behind an empty song", y.played(-1), -1);
    }

    private static void songRefusesLengths() {
        Checks.sentence("3 song: IllegalArgumentException: the tape has not so many, n below 0 (nothing changes)");
        ChordMover x = playedSong();
        Checks.song(x, "ab]");
        Checks.refusesArguments("song of an empty tape", x, x::song, -1, 1, 20, 1200, 1201);
        Checks.feed(x, "[G]c");
        Checks.refusesArguments("song of 20", x, x::song, -1, -20, 21, 40);
        Checks.due("what is played stays", x.played(-1), 2);
        Checks.due("the tape stays", x.song(4), 0);
        Checks.due("with its bytes", Checks.written(x), "G\nc");
    }

    private static void faultOfTheLatestSong() {
        Checks.sentence("4 fault: Of the latest song(): 0 its FAULT, 1 the place (NONE without)");
        ChordMover x = new ChordMover();
        Checks.due("before any song: fault", x.fault(0), 0);
        Checks.due("before any song: place", x.fault(1), -1);
        Checks.song(x, "]");
        Checks.due("the first place there is", x.fault(1), 0);
        Checks.song(x, "a".repeat(1199) + "[");
        Checks.due("the last place there is", x.fault(1), 1200);
        Checks.song(x, "\n".repeat(40));
        Checks.due("fault 2", x.fault(0), 2);
        Checks.due("its place", x.fault(1), 39);
        Checks.refusesArgument("a song that is refused", () -> x.song(1));
        Checks.due("is not the latest: fault", x.fault(0), 2);
        Checks.due("is not the latest: place", x.fault(1), 39);
        x.song(0);
        Checks.due("without a fault: 0", x.fault(0), 0);
        Checks.due("without a fault: NONE", x.fault(1), -1);
    }

    private static void faultRefuses() {
        Checks.sentence("4 fault: NoSuchElementException: another what");
        ChordMover x = playedSong();
        Checks.hasNoneOf("fault", x, x::fault, -1, 2, 3);
        ChordMover y = new ChordMover();
        Checks.hasNoneOf("fault of a new object", y, y::fault, -1, 2);
    }

    private static void textOfAtMost1200() {
        Checks.sentence("A TEXT: at most 1200 bytes");
        ChordMover words = Checks.withSong("a".repeat(1199) + "b");
        Checks.due("all of them words", words.write(), 1200);
        Checks.due("the last one", words.told(1199), 'b');
        ChordMover x = Checks.withSong("a".repeat(1196) + "[C]b");
        Checks.due("its chord", x.count(0), 1);
        Checks.due("its bytes, twice", x.write(), 1197 + 1 + 1197);
        Checks.due("the last one", x.told(1197 + 1197), 'b');
    }

    private static void oneLineMoreThanTens() {
        Checks.sentence("LINES with 10 between (one more than there are 10s)");
        for (int tens = 0; tens < 40; tens++) {
            ChordMover x = Checks.withSong("\n".repeat(tens) + "[C]");
            Checks.due("lines of " + tens, x.count(1), tens + 1);
            Checks.due("line of the chord", x.chord(0, 4), tens);
        }
        Checks.due("a 10 at the end", Checks.withSong("a\n").count(1), 2);
    }

    private static void bytesOfWords() {
        Checks.sentence("all other bytes from 32 to 126 but [ and ] are WORDS; a FAULT is another one");
        for (int sign = 0; sign <= 255; sign++) {
            boolean fits = sign >= 32 && sign <= 126 && sign != ']' || sign == 10;
            if (sign != '[') {
                faultAt("a" + (char) sign + "b", fits ? 0 : 1, fits ? -1 : 1);
            }
        }
        ChordMover x = Checks.withSong(" ~#/b7-");
        Checks.due("they are written", Checks.written(x), " ~#/b7-");
    }

    private static void closingWithoutOpening() {
        Checks.sentence("FAULT 1: a ] that no [ is ahead of");
        faultAt("]", 1, 0);
        faultAt("a]", 1, 1);
        faultAt("][C]", 1, 0);
        faultAt("[C]]", 1, 3);
        faultAt("[C]a]", 1, 4);
        faultAt("[C]\n]", 1, 4);
    }

    private static void letterOfTheRoot() {
        Checks.sentence("FAULT 1: in a NAME what stands where a letter must");
        for (int sign = 0; sign <= 255; sign++) {
            boolean fits = sign >= 'A' && sign <= 'G';
            faultAt("[" + (char) sign + "]", fits ? 0 : 1, fits ? -1 : 1);
        }
        faultAt("[#C]", 1, 1);
        faultAt("[/C]", 1, 1);
    }

    private static void letterOfTheBass() {
        Checks.sentence("FAULT 1: in a NAME what stands where a letter must (of the BASS)");
        for (int sign = 0; sign <= 255; sign++) {
            boolean fits = sign >= 'A' && sign <= 'G';
            faultAt("[C/" + (char) sign + "]", fits ? 0 : 1, fits ? -1 : 3);
        }
        faultAt("[C//G]", 1, 3);
        faultAt("[C/#G]", 1, 3);
    }

    private static void behindTheKind() {
        Checks.sentence("FAULT 1: or behind the KIND is no / or ]");
        for (int sign = 0; sign <= 255; sign++) {
            boolean fits = sign == ']';
            if (sign != '/') {
                faultAt("[Cm7" + (char) sign, fits ? 0 : 1, fits ? -1 : 4);
            }
        }
        faultAt("[Cm7/G]", 0, -1);
        faultAt("[C ]", 1, 2);
        faultAt("[CC]", 1, 2);
        faultAt("[C#b]", 1, 3);
    }

    private static void behindTheBass() {
        Checks.sentence("FAULT 1: behind the BASS no ]");
        for (int sign = 0; sign <= 255; sign++) {
            boolean fits = sign == ']';
            faultAt("[C/Gbb" + (char) sign, fits ? 0 : 1, fits ? -1 : 6);
        }
        faultAt("[C/G/E]", 1, 4);
        faultAt("[C/Gm]", 1, 4);
        faultAt("[C/G7]", 1, 4);
    }

    private static void textEndsTooSoon() {
        Checks.sentence("FAULT 1: (the text's length where it ends too soon)");
        String name = "[Bbbmaj7/Ebb]";
        int[] places = {1, 2, 3, 4, 5, 5, 5, 8, 9, 10, 11, 12};
        for (int n = 1; n <= places.length; n++) {
            ChordMover x = new ChordMover();
            Checks.feed(x, name);
            Checks.due("the first " + n + " bytes of " + name, x.song(n), 1);
            Checks.due("the place", x.fault(1), places[n - 1]);
        }
        faultAt("a[", 1, 2);
        faultAt("[C]\n[G", 1, 6);
        faultAt("a".repeat(1198) + "[C", 1, 1200);
    }

    private static void sixtyFirstChord() {
        Checks.sentence("FAULT 2: the [ of the 61st CHORD");
        faultAt("[C]".repeat(60), 0, -1);
        faultAt("[C]".repeat(60) + "word", 0, -1);
        faultAt("[C]".repeat(61), 2, 180);
        faultAt("[C]".repeat(60) + "\na[", 2, 182);
        faultAt("[C]\n".repeat(30) + "[C]".repeat(30) + "[H]", 2, 210);
        Checks.due("sixty chords", Checks.withSong("[C]".repeat(60)).count(0), 60);
    }

    private static void tenBehindTheFortiethLine() {
        Checks.sentence("FAULT 2: the 10 behind the 40th LINE");
        faultAt("\n".repeat(39), 0, -1);
        faultAt("\n".repeat(39) + "word[C]", 0, -1);
        faultAt("\n".repeat(40), 2, 39);
        faultAt("ab\n".repeat(39) + "ab\nab", 2, 119);
        Checks.due("forty lines", Checks.withSong("\n".repeat(39)).count(1), 40);
    }

    private static void firstFaultAlongTheText() {
        Checks.sentence("FAULTS, the first along the text");
        faultAt("a\tb]", 1, 1);
        faultAt("[C]".repeat(60) + "][C]", 1, 180);
        faultAt("[C]".repeat(60) + "[C]]", 2, 180);
        faultAt("\n".repeat(39) + "]\n", 1, 39);
        faultAt("\n".repeat(40) + "]", 2, 39);
        faultAt("[C]".repeat(60) + "\n".repeat(40) + "[C]", 2, 219);
        faultAt("\n".repeat(39) + "[C]".repeat(61) + "\n", 2, 219);
    }

    private static void leastAtOnePlace() {
        Checks.sentence("(At one place the least.)");
        faultAt("[C]".repeat(59) + "[[C]", 1, 178);
        faultAt("[C]".repeat(59) + "[C[C]", 1, 179);
        faultAt("[C]".repeat(59) + "[C/[C]", 1, 180);
        faultAt("\n".repeat(39) + "[\n", 1, 40);
        faultAt("\n".repeat(39) + "[C/G\n", 1, 43);
    }

    private static void atMostTwoSigns() {
        Checks.sentence("each # is 7 more, each b 7 less; at most two of these: -15 to 19");
        ChordMover x = Checks.withSong("[Fbb/B##][B##/Fbb][F][B]");
        Checks.due("the least root", x.chord(0, 0), -15);
        Checks.due("the greatest bass", x.chord(0, 2), 19);
        Checks.due("the greatest root", x.chord(1, 0), 19);
        Checks.due("the least bass", x.chord(1, 2), -15);
        Checks.due("the least letter", x.chord(2, 0), -1);
        Checks.due("the greatest letter", x.chord(3, 0), 5);
        faultAt("[Fbbb]", 1, 4);
        faultAt("[B###]", 1, 4);
        faultAt("[C/Fbbb]", 1, 6);
        faultAt("[C/B###]", 1, 6);
        faultAt("[Fb#]", 1, 3);
        faultAt("[C/F#b]", 1, 5);
    }

    private static void longestIsTaken() {
        Checks.sentence("Of each the longest is taken that stands there whole");
        ChordMover x = Checks.withSong("[Bb][Bbb][Am7][Am][Am6][Amaj7][Adim7][Adim][Bb6]");
        int[] notes = {-2, -9, 3, 3, 3, 3, 3, 3, -2};
        int[] kinds = {0, 0, 3, 1, 10, 4, 11, 5, 9};
        for (int i = 0; i < notes.length; i++) {
            Checks.due("note of chord " + i, x.chord(i, 0), notes[i]);
            Checks.due("kind of chord " + i, x.chord(i, 1), kinds[i]);
        }
        faultAt("[Cmaj]", 1, 3);
        faultAt("[Cma7]", 1, 3);
        faultAt("[Cmadd9]", 1, 3);
        faultAt("[Cm9]", 1, 3);
        faultAt("[Cdi]", 1, 2);
        faultAt("[Cdim6]", 1, 5);
        faultAt("[Csus]", 1, 2);
        faultAt("[Cadd]", 1, 2);
        faultAt("[C77]", 1, 3);
    }

    private static void rootIsTheBassWithoutOne() {
        Checks.sentence("Without a BASS the ROOT is it");
        ChordMover x = Checks.withSong("[Fbb][B##m7][G/G]");
        Checks.due("the least", x.chord(0, 2), -15);
        Checks.due("the greatest", x.chord(1, 2), 19);
        Checks.due("one that is the root", x.chord(2, 2), 1);
    }
}
