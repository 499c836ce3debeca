import java.util.Random;

/**
 * Runs of calls by chance (from a fixed seed), each answer compared with the slow model's. All
 * promises; above all that nothing but the document's exceptions is ever thrown.
 */
public final class RandomRunsTest {
    private static final String[] NAMES = {
        "C", "G", "Am", "F", "Dm7", "E7", "Bb", "F#dim", "Cmaj7", "Gsus4", "Asus2", "D6", "Em6",
        "Bdim7", "C9", "Gadd9", "Caug", "C/E", "D/F#", "Abb", "B##/Fbb", "E#m/G", "Am/G", "G9/A"
    };
    private static final String[] WRONG = {
        "[", "]", "[C", "[H]", "[Cmaj]", "[C/]", "\t", "\n\n\n", "[c]", "[C##b]", "\u0080", "[C/Gm]"
    };
    private static final int[] ODD = {
        -1, -2, 0, 7, 8, 12, 60, 61, 1200, Integer.MAX_VALUE, Integer.MIN_VALUE
    };

    private final Random random;
    private final ChordMover mover = new ChordMover();
    private final SlowModel model = new SlowModel();
    private final int run;
    private final boolean small;
    private int calls;

    private RandomRunsTest(int run) {
        this.run = run;
        this.random = new Random(run);
        // Six strings make the slow model slow: then songs are short.
        this.small = run % 4 != 0;
    }

    public static void main(String[] args) {
        for (int run = 1; run <= 300; run++) {
            new RandomRunsTest(run).go();
        }
        Checks.end();
    }

    private void go() {
        readSong();
        for (int k = 0; k < 60; k++) {
            callOne();
        }
    }

    /** What an object answers behind its 512th call is free, so none is made then. */
    private void same(String what, Checks.Call call, Checks.Call modelCall) {
        if (calls == 512) {
            return;
        }
        calls++;
        Checks.due("run " + run + ": " + what, Checks.outcome(call), Checks.outcome(modelCall));
    }

    private int number(int least, int greatest) {
        if (random.nextInt(12) == 0) {
            return ODD[random.nextInt(ODD.length)];
        }
        return least + random.nextInt(greatest - least + 1);
    }

    private String text() {
        StringBuilder text = new StringBuilder();
        int parts = random.nextInt(small && random.nextInt(6) == 0 ? 140 : 20);
        boolean faulty = random.nextInt(3) == 0;
        for (int k = 0; k < parts; k++) {
            switch (random.nextInt(6)) {
                case 0: text.append('\n'); break;
                case 1: text.append(' '); break;
                case 2: text.append("la-1Z".charAt(random.nextInt(5))); break;
                case 3: text.append(faulty && random.nextInt(5) == 0 ? WRONG[random.nextInt(WRONG.length)] : "o"); break;
                default: text.append('[').append(NAMES[random.nextInt(NAMES.length)]).append(']');
            }
        }
        return text.toString();
    }

    private void feed(int[] five) {
        same("feed", () -> mover.feed(five[0], five[1], five[2], five[3], five[4]), () -> model.feed(five));
    }

    private void readSong() {
        String text = text();
        for (int start = 0; start < text.length(); start += 20) {
            int[] five = new int[5];
            for (int k = 0; k < 20; k++) {
                int sign = start + k < text.length() ? text.charAt(start + k) : ' ';
                five[k / 4] = five[k / 4] << 8 | sign;
            }
            feed(five);
        }
        int fill = (20 - text.length() % 20) % 20;
        int n = random.nextInt(10) == 0 ? number(0, 100) : model.count(5) - fill;
        same("song(" + text + ")", () -> mover.song(n), () -> model.song(n));
        same("fault(0)", () -> mover.fault(0), () -> model.fault(0));
        same("fault(1)", () -> mover.fault(1), () -> model.fault(1));
    }

    private void readOut() {
        for (int k = 0; k <= model.count(4); k++) {
            int place = k;
            same("told(" + k + ")", () -> mover.told(place), () -> model.told(place));
        }
    }

    private void restring() {
        same("unstring", mover::unstring, model::unstring);
        int many = small ? random.nextInt(5) : random.nextInt(7);
        for (int k = 0; k < many; k++) {
            int pitch = random.nextInt(61);
            same("string(" + pitch + ")", () -> mover.string(pitch), () -> model.string(pitch));
        }
    }

    private void callOne() {
        int i = number(0, Math.max(0, model.count(0) - 1));
        int what = number(0, 5);
        int bar = number(0, 7);
        int j = number(0, 5);
        int s = number(-1, 5);
        int k = number(-7, 7);
        int n = number(-11, 11);
        switch (random.nextInt(small ? 18 : 40)) {
            case 0: readSong(); break;
            case 1: restring(); break;
            case 2: same("key(" + k + ")", () -> mover.key(k), () -> model.key(k)); break;
            case 3: same("move(" + n + ")", () -> mover.move(n), () -> model.move(n)); break;
            case 4: same("write()", mover::write, model::write); readOut(); break;
            case 5: same("name(" + i + ")", () -> mover.name(i), () -> model.name(i)); readOut(); break;
            case 6: same("easiest()", mover::easiest, model::easiest); readPlayed(); break;
            case 7: same("play(" + bar + ")", () -> mover.play(bar), () -> model.play(bar)); readPlayed(); break;
            case 8: same("guess()", mover::guess, model::guess); break;
            case 9: same("count(" + what + ")", () -> mover.count(what), () -> model.count(what)); break;
            case 10: same("string(" + n + ")", () -> mover.string(n), () -> model.string(n)); break;
            case 11: same("hands", () -> mover.hands(i, bar), () -> model.hands(i, bar)); break;
            case 12: feed(random.ints(5).toArray()); break;
            case 13: same("fault(" + what + ")", () -> mover.fault(what), () -> model.fault(what)); break;
            case 14: same("told(" + what + ")", () -> mover.told(what), () -> model.told(what)); break;
            case 15: readPlayed(); break;
            case 16: same("chord", () -> mover.chord(i, what), () -> model.chord(i, what)); break;
            default: same("fret", () -> mover.fret(i, bar, j, s), () -> model.fret(i, bar, j, s));
        }
    }

    private void readPlayed() {
        for (int i = -2; i <= model.count(0); i++) {
            int chord = i;
            same("played(" + i + ")", () -> mover.played(chord), () -> model.played(chord));
        }
    }
}
