/** Promises 5 to 8: key, move, chord, name. */
public final class MovingTest {
    private static final String[] KINDS = {
        "", "m", "7", "m7", "maj7", "dim", "aug", "sus4", "sus2", "6", "m6", "dim7", "9", "add9"
    };
    private static final int[][] TONES = {
        {0, 4, 7}, {0, 3, 7}, {0, 4, 7, 10}, {0, 3, 7, 10}, {0, 4, 7, 11}, {0, 3, 6}, {0, 4, 8},
        {0, 5, 7}, {0, 2, 7}, {0, 4, 7, 9}, {0, 3, 7, 9}, {0, 3, 6, 9}, {0, 2, 4, 7, 10}, {0, 2, 4, 7}
    };

    public static void main(String[] args) {
        key();
        moveKeepsKeysInTheirRow();
        moveSpellsByTheKey();
        moveFoldsNotes();
        moveRefuses();
        chordOfEachNote();
        chordOfEachKind();
        chordRefuses();
        name();
        Checks.end();
    }

    private static void key() {
        ChordMover x = Checks.withSong("[C]a");
        Checks.due("key(7)", x.key(7), 0);
        Checks.due("key(-7)", x.key(-7), 7);
        Checks.due("count(2)", x.count(2), -7);
        Checks.refusesArgument("key(8)", () -> x.key(8));
        Checks.refusesArgument("key(-8)", () -> x.key(-8));
        Checks.due("a wrong key changes nothing", x.count(2), -7);
        Checks.due("the chords stay", x.chord(0, 0), 0);
        Checks.song(x, "[G]");
        Checks.due("the key stays with another song", x.count(2), -7);
        Checks.strings(x, 7, 0, 4, 9);
        x.play(2);
        x.key(1);
        Checks.due("what is played stays", x.played(-1), 2);
    }

    private static void moveKeepsKeysInTheirRow() {
        for (int from = -7; from <= 7; from++) {
            for (int n = -11; n <= 11; n++) {
                ChordMover x = Checks.withSong("[D]");
                x.key(from);
                int to = from + 7 * n;
                while (to > 6) {
                    to -= 12;
                }
                while (to < -5) {
                    to += 12;
                }
                Checks.due("move " + n + " from key " + from, x.move(n), to);
                Checks.due("key then", x.count(2), to);
                int note = 2 + to - from;
                Checks.due("note then", x.chord(0, 0), note);
            }
        }
    }

    private static void moveSpellsByTheKey() {
        ChordMover x = Checks.withSong("[C]a[F/A]b[Bb]");
        x.move(1);
        Checks.due("half a tone up", names(x), "Db Gb/Bb Cb");
        x.move(5);
        Checks.due("and five more", names(x), "F# B/D# E");
        x.move(-6);
        Checks.due("and back", names(x), "C F/A Bb");
    }

    private static void moveFoldsNotes() {
        ChordMover x = Checks.withSong("[B##][Fbb][B##/C#][B][E##]");
        x.key(-7);
        Checks.due("13 more", x.move(7), 6);
        Checks.due("twice 12 less", x.chord(0, 0), 8);
        Checks.due("bass likewise", x.chord(0, 2), 8);
        Checks.due("no fold below", x.chord(1, 0), -2);
        Checks.due("just below the greatest", x.chord(3, 0), 18);
        Checks.due("12 less just once", x.chord(4, 0), 19);
        ChordMover y = Checks.withSong("[Fbb][Gbb][B##/C#]");
        y.move(2);
        Checks.due("2 more: a root and a bass that become one", Checks.nameOf(y, 2), "D#");
        y.move(-2);
        Checks.due("stay one", Checks.nameOf(y, 2), "C#");
        y.key(7);
        Checks.due("12 less", y.move(0), -5);
        Checks.due("-27 is 12 more", y.chord(0, 0), -15);
        Checks.due("-25 is 12 more", y.chord(1, 0), -13);
        ChordMover z = Checks.withSong("[B##][Fbb]");
        Checks.due("one less", z.move(5), -1);
        Checks.due("-16 is -4", z.chord(1, 0), -4);
        Checks.due("18 stays", z.chord(0, 0), 18);
        z.move(-5);
        Checks.due("19 stays", z.chord(0, 0), 19);
        z.move(7);
        Checks.due("20 is 8", z.chord(0, 0), 8);
    }

    private static void moveRefuses() {
        ChordMover x = Checks.withSong("[C]");
        Checks.strings(x, 7, 0, 4, 9);
        x.play(1);
        Checks.refusesArgument("move(12)", () -> x.move(12));
        Checks.refusesArgument("move(-12)", () -> x.move(-12));
        Checks.due("a wrong move changes no key", x.count(2), 0);
        Checks.due("and nothing played", x.played(-1), 1);
        x.move(0);
        Checks.due("nothing is played behind a move", x.played(-1), -1);
        Checks.due("a move without a song", new ChordMover().move(2), 2);
    }

    private static void chordOfEachNote() {
        String[] letters = {"F", "C", "G", "D", "A", "E", "B"};
        String[] signs = {"bb", "b", "", "#", "##"};
        for (int k = 0; k < 35; k++) {
            String note = letters[k % 7] + signs[k / 7];
            ChordMover x = Checks.withSong("[" + note + "][C/" + note + "]");
            Checks.due("note of " + note, x.chord(0, 0), k - 15);
            Checks.due("bass without one", x.chord(0, 2), k - 15);
            Checks.due("bass " + note, x.chord(1, 2), k - 15);
            Checks.due("root beside a bass", x.chord(1, 0), 0);
            Checks.due("name of " + note, Checks.nameOf(x, 0), note);
            int tone = Math.floorMod(7 * (k - 15), 12);
            Checks.due("bass among the tones", x.chord(1, 3), 145 | 1 << tone);
        }
    }

    private static void chordOfEachKind() {
        for (int kind = 0; kind < KINDS.length; kind++) {
            ChordMover x = Checks.withSong("[Bb" + KINDS[kind] + "]\n[Bb" + KINDS[kind] + "/C#]");
            int bits = 0;
            for (int tone : TONES[kind]) {
                bits |= 1 << (tone + 10) % 12;
            }
            Checks.due("kind " + KINDS[kind], x.chord(0, 1), kind);
            Checks.due("tones of " + KINDS[kind], x.chord(0, 3), bits);
            Checks.due("tones with a bass", x.chord(1, 3), bits | 2);
            Checks.due("name of " + KINDS[kind], Checks.nameOf(x, 1), "Bb" + KINDS[kind] + "/C#");
            Checks.due("line", x.chord(1, 4), 1);
        }
    }

    private static void chordRefuses() {
        ChordMover x = Checks.withSong("[C][G]");
        Checks.hasNone("chord(2, 0)", () -> x.chord(2, 0));
        Checks.hasNone("chord(-1, 0)", () -> x.chord(-1, 0));
        Checks.hasNone("chord(0, 5)", () -> x.chord(0, 5));
        Checks.hasNone("chord(0, -1)", () -> x.chord(0, -1));
        Checks.hasNone("chord of the greatest", () -> x.chord(Integer.MAX_VALUE, 0));
    }

    private static void name() {
        ChordMover x = Checks.withSong("[C/C][Ebb/Fb]");
        Checks.due("a bass that is the root's", Checks.nameOf(x, 0), "C");
        Checks.due("name(1)", x.name(1), 6);
        Checks.due("a bass that is not", Checks.told(x), "Ebb/Fb");
        Checks.hasNone("name(2)", () -> x.name(2));
        Checks.hasNone("name(-1)", () -> x.name(-1));
        Checks.due("OUT stays then", Checks.told(x), "Ebb/Fb");
        Checks.due("a bass of the same tone", Checks.nameOf(Checks.withSong("[C#/Db]"), 0), "C#/Db");
    }

    private static String names(ChordMover x) {
        StringBuilder text = new StringBuilder();
        for (int i = 0; i < x.count(0); i++) {
            text.append(i == 0 ? "" : " ").append(Checks.nameOf(x, i));
        }
        return text.toString();
    }
}
