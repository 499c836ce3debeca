/** Promises 11 to 14: string, unstring, hands, fret. */
public final class HandsTest {
    private static final int[] GUITAR = {40, 45, 50, 55, 59, 60};
    private static final int[] UKULELE = {7, 0, 4, 9};

    public static void main(String[] args) {
        string();
        unstring();
        wellKnownHands();
        orderOfHands();
        leastSoundIsTheBass();
        fifthMayBeMissing();
        fingersAndSpread();
        barShiftsHands();
        hands();
        fret();
        handsFollowTheSong();
        Checks.end();
    }

    private static void string() {
        ChordMover x = Checks.withSong("[C]");
        for (int k = 1; k <= 6; k++) {
            Checks.due("string " + k, x.string(10 * k), k);
        }
        Checks.due("a seventh string", x.string(0), -1);
        Checks.due("strings then", x.count(3), 6);
        Checks.refusesArgument("string(61)", () -> x.string(61));
        Checks.refusesArgument("string(-1)", () -> x.string(-1));
        ChordMover y = Checks.withSong("[C]");
        Checks.strings(y, 0, 4, 7);
        y.play(0);
        Checks.refusesArgument("string(61)", () -> y.string(61));
        Checks.due("a wrong pitch changes nothing", y.count(3), 3);
        Checks.due("what is played stays", y.played(-1), 0);
        Checks.due("string(60)", y.string(60), 4);
        Checks.due("nothing is played then", y.played(-1), -1);
        Checks.strings(y, 60, 60);
        y.play(0);
        Checks.due("a seventh string", y.string(1), -1);
        Checks.due("what is played stays then", y.played(-1), 0);
    }

    private static void unstring() {
        ChordMover x = Checks.withSong("[C]");
        Checks.due("unstring without strings", x.unstring(), 0);
        Checks.strings(x, UKULELE);
        x.play(0);
        Checks.due("unstring", x.unstring(), 4);
        Checks.due("strings then", x.count(3), 0);
        Checks.due("nothing is played then", x.played(-1), -1);
        Checks.due("no hands then", x.hands(0, 0), 0);
    }

    private static void wellKnownHands() {
        ChordMover x = Checks.withSong("[Am][C][G][D/F#]");
        Checks.strings(x, GUITAR);
        Checks.due("Am", Checks.hand(x, 0, 0, 0), "x02210");
        Checks.due("C", Checks.hand(x, 1, 0, 0), "x32010");
        Checks.due("G", Checks.hand(x, 2, 0, 0), "320002");
        Checks.due("D/F#", Checks.hand(x, 3, 0, 0), "2002x2");
        Checks.due("strain of Am", x.fret(0, 0, 0, -1), 9 + 2 + 4);
        Checks.due("strain of G", x.fret(2, 0, 0, -1), 9 + 3);
    }

    private static void orderOfHands() {
        ChordMover x = Checks.withSong("[C]");
        Checks.strings(x, UKULELE);
        Checks.due("hands of C", x.hands(0, 0), 5);
        Checks.due("first", Checks.hand(x, 0, 0, 0), "000x");
        Checks.due("second", Checks.hand(x, 0, 0, 1), "0003");
        int before = 0;
        for (int j = 0; j < 5; j++) {
            int strain = x.fret(0, 0, j, -1);
            Checks.due("strains never fall", Math.min(strain, before), before);
            before = strain;
        }
        ChordMover y = Checks.withSong("[C]");
        Checks.strings(y, 0, 4, 7, 7);
        Checks.due("all open is the least", Checks.hand(y, 0, 0, 0), "0000");
        Checks.due("of like ones that with NONE ahead", Checks.hand(y, 0, 0, 1), "00x0");
        Checks.due("then that with 0", Checks.hand(y, 0, 0, 2), "000x");
    }

    private static void leastSoundIsTheBass() {
        ChordMover x = Checks.withSong("[C][C/G][C/E]");
        Checks.strings(x, 12, 16, 7);
        Checks.due("C needs a least C", Checks.hand(x, 0, 0, 0), "705");
        Checks.due("C/G has it open", Checks.hand(x, 1, 0, 0), "000");
        Checks.due("C/E has its least E on the last string", Checks.hand(x, 2, 0, 0), "789");
    }

    private static void fifthMayBeMissing() {
        ChordMover x = Checks.withSong("[C][C7]");
        Checks.strings(x, 0, 4, 10);
        Checks.due("a chord of three needs all", Checks.hand(x, 0, 0, 0), "009");
        Checks.due("C7 without its fifth", Checks.hand(x, 1, 0, 0), "000");
        ChordMover y = Checks.withSong("[Cdim7][C7/G][C/D]");
        Checks.strings(y, 0, 3, 6);
        Checks.due("dim7 needs its four", y.hands(0, 0), 0);
        Checks.due("a fifth that is the bass is needed", y.hands(1, 0), 0);
        ChordMover z = Checks.withSong("[C/D]");
        Checks.strings(z, 2, 12, 16);
        Checks.due("a bass can be the fourth tone", Checks.hand(z, 0, 0, 0), "000");
    }

    private static void fingersAndSpread() {
        ChordMover x = Checks.withSong("[C]");
        Checks.strings(x, 11, 15, 18, 11, 15, 18);
        Checks.due("all at the least fret are one finger", Checks.hand(x, 0, 0, 0), "111111");
        Checks.due("its strain", x.fret(0, 0, 0, -1), 3 + 1);
        ChordMover y = Checks.withSong("[C]");
        Checks.strings(y, 0, 11, 15, 18);
        Checks.due("a silent string lets them be one", Checks.hand(y, 0, 0, 0), "x111");
        Checks.due("its strain", y.fret(0, 0, 0, -1), 3 + 1 + 4);
        Checks.due("with an open string each is one", Checks.hand(y, 0, 0, 1), "0111");
        Checks.due("its strain", y.fret(0, 0, 1, -1), 9 + 1);
        ChordMover z = Checks.withSong("[C]");
        Checks.strings(z, 11, 12, 15);
        Checks.due("1 and 4 are near enough", Checks.hand(z, 0, 0, 1), "144");
        ChordMover w = Checks.withSong("[C]");
        Checks.strings(w, 11, 11, 15);
        Checks.due("1 and 5 are too far apart", w.hands(0, 0), 0);
        ChordMover v = Checks.withSong("[C9/F]");
        Checks.strings(v, 4, 9, 11, 13, 19);
        Checks.due("13333 would be five fingers", v.hands(0, 0), 0);
        ChordMover u = Checks.withSong("[C9/F]");
        Checks.strings(u, 5, 11, 13, 15, 21);
        Checks.due("01111 are four", Checks.hand(u, 0, 0, 0), "01111");
    }

    private static void barShiftsHands() {
        ChordMover x = Checks.withSong("[C][D]");
        Checks.strings(x, UKULELE);
        Checks.due("D at 2 as C at 0", Checks.hand(x, 1, 2, 0), Checks.hand(x, 0, 0, 0));
        Checks.due("as many", x.hands(1, 2), x.hands(0, 0));
        ChordMover y = Checks.withSong("[G]");
        Checks.strings(y, 0, 4, 7);
        Checks.due("a bar at 7", Checks.hand(y, 0, 7, 0), "000");
        ChordMover z = Checks.withSong("[C]");
        Checks.strings(z, 3, 7, 10);
        Checks.due("a fret of 9 is the highest", Checks.hand(z, 0, 0, 0), "999");
        ChordMover w = Checks.withSong("[C]");
        Checks.strings(w, 2, 6, 9);
        Checks.due("a fret of 10 is none", w.hands(0, 0), 0);
    }

    private static void hands() {
        ChordMover x = Checks.withSong("[C]");
        Checks.due("no strings", x.hands(0, 0), 0);
        Checks.strings(x, GUITAR);
        Checks.due("never more than six", x.hands(0, 0), 6);
        Checks.hasNone("hands(1, 0)", () -> x.hands(1, 0));
        Checks.hasNone("hands(-1, 0)", () -> x.hands(-1, 0));
        Checks.refusesArgument("hands(0, 8)", () -> x.hands(0, 8));
        Checks.refusesArgument("hands(0, -1)", () -> x.hands(0, -1));
        Checks.hasNone("no chord, no bar", () -> x.hands(1, 8));
    }

    private static void fret() {
        ChordMover x = Checks.withSong("[C]");
        Checks.hasNone("no strings, no hand", () -> x.fret(0, 0, 0, -1));
        Checks.strings(x, GUITAR);
        Checks.due("a silent string", x.fret(0, 0, 0, 0), -1);
        Checks.due("a fret", x.fret(0, 0, 0, 1), 3);
        Checks.due("the strain", x.fret(0, 0, 0, -1), 16);
        Checks.hasNone("fret of no chord", () -> x.fret(1, 0, 0, 0));
        Checks.hasNone("fret of the seventh hand", () -> x.fret(0, 0, 6, 0));
        Checks.hasNone("fret of hand -1", () -> x.fret(0, 0, -1, 0));
        Checks.hasNone("fret of string 6", () -> x.fret(0, 0, 0, 6));
        Checks.hasNone("fret of string -2", () -> x.fret(0, 0, 0, -2));
        Checks.refusesArgument("fret at bar 8", () -> x.fret(0, 8, 0, 0));
        Checks.refusesArgument("fret at bar -1", () -> x.fret(0, -1, 0, 0));
    }

    private static void handsFollowTheSong() {
        ChordMover x = Checks.withSong("[C]");
        Checks.strings(x, 0, 4, 7);
        Checks.due("C open", Checks.hand(x, 0, 0, 0), "000");
        x.move(2);
        Checks.due("D two higher", Checks.hand(x, 0, 0, 0), "222");
        Checks.song(x, "[F]");
        Checks.due("F five higher", Checks.hand(x, 0, 0, 0), "555");
        x.unstring();
        Checks.strings(x, 5, 9, 12);
        Checks.due("F on other strings", Checks.hand(x, 0, 0, 0), "000");
    }
}
