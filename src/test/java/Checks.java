import java.nio.charset.StandardCharsets;

/** What the tests share: counting wrong answers, feeding texts, reading OUT. */
final class Checks {
    interface Call {
        int answer();
    }

    interface CallWith {
        int answer(int number);
    }

    private static int wrong = 0;
    private static String sentence = "";

    private Checks() {
    }

    /** The document's words that the checks from here on are for: a wrong answer is told with them. */
    static void sentence(String words) {
        sentence = words + " | ";
    }

    static void due(String what, int got, int want) {
        if (got != want) {
            tell(what + " answered " + got + ", due is " + want);
        }
    }

    static void due(String what, String got, String want) {
        if (!got.equals(want)) {
            tell(what + " answered \"" + got + "\", due is \"" + want + "\"");
        }
    }

    /** The answer as text, or the name of what was thrown. */
    static String outcome(Call call) {
        try {
            return Integer.toString(call.answer());
        } catch (RuntimeException thrown) {
            return thrown.getClass().getSimpleName();
        }
    }

    static void refusesArgument(String what, Call call) {
        due(what, outcome(call), "IllegalArgumentException");
    }

    static void hasNone(String what, Call call) {
        due(what, outcome(call), "NoSuchElementException");
    }

    /** Each number, and the ends of int, is refused with that exception, and nothing changes. */
    private static void refusesAll(String what, String thrown, ChordMover mover, CallWith call, int[] numbers) {
        String before = state(mover);
        for (int k = -2; k < numbers.length; k++) {
            int number = k >= 0 ? numbers[k] : k == -1 ? Integer.MIN_VALUE : Integer.MAX_VALUE;
            due(what + " with " + number, outcome(() -> call.answer(number)), thrown);
        }
        due("all that is told behind " + what, state(mover), before);
    }

    static void refusesArguments(String what, ChordMover mover, CallWith call, int... numbers) {
        refusesAll(what, "IllegalArgumentException", mover, call, numbers);
    }

    static void hasNoneOf(String what, ChordMover mover, CallWith call, int... numbers) {
        refusesAll(what, "NoSuchElementException", mover, call, numbers);
    }

    /** What an object tells of itself, as text (for short songs: it has 512 calls in all). */
    static String state(ChordMover mover) {
        StringBuilder text = new StringBuilder();
        for (int what = 0; what <= 5; what++) {
            text.append(mover.count(what)).append(' ');
        }
        text.append("fault ").append(mover.fault(0)).append(' ').append(mover.fault(1));
        text.append(" played ").append(mover.played(ChordMover.NONE)).append(" chords");
        for (int i = 0; i < mover.count(0); i++) {
            for (int what = 0; what <= 4; what++) {
                text.append(' ').append(mover.chord(i, what));
            }
            text.append(" by ").append(mover.played(i)).append(" of ").append(mover.hands(i, 0));
        }
        return text.append(" out ").append(told(mover)).toString();
    }

    static void tell(String text) {
        wrong++;
        System.out.println(sentence + text);
    }

    static void end() {
        System.out.println(wrong == 0 ? "all answers are as due" : wrong + " answers are not as due");
        if (wrong != 0) {
            System.exit(1);
        }
    }

    /** Feeds the text, filled up with blanks to twenties. */
    static void feed(ChordMover mover, String text) {
        byte[] bytes = text.getBytes(StandardCharsets.ISO_8859_1);
        for (int start = 0; start < bytes.length; start += 20) {
            mover.feed(four(bytes, start), four(bytes, start + 4), four(bytes, start + 8),
                four(bytes, start + 12), four(bytes, start + 16));
        }
    }

    private static int four(byte[] bytes, int start) {
        int number = 0;
        for (int k = start; k < start + 4; k++) {
            number = (number << 8) | (k < bytes.length ? bytes[k] & 255 : 32);
        }
        return number;
    }

    static int song(ChordMover mover, String text) {
        feed(mover, text);
        return mover.song(text.length());
    }

    static ChordMover withSong(String text) {
        ChordMover mover = new ChordMover();
        due("song(" + text + ")", song(mover, text), 0);
        return mover;
    }

    static void strings(ChordMover mover, int... pitches) {
        for (int pitch : pitches) {
            mover.string(pitch);
        }
    }

    static String told(ChordMover mover) {
        StringBuilder text = new StringBuilder();
        int many = mover.count(4);
        for (int k = 0; k < many; k++) {
            text.append((char) mover.told(k));
        }
        return text.toString();
    }

    static String written(ChordMover mover) {
        int many = mover.write();
        String text = told(mover);
        due("write() against what is told", many, text.length());
        return text;
    }

    static String nameOf(ChordMover mover, int i) {
        due("name(" + i + ") against what is told", mover.name(i), mover.count(4));
        return told(mover);
    }

    /** Says what the HANDS of a CHORD are, like "x02210 002210". */
    static String hands(ChordMover mover, int i, int bar) {
        StringBuilder rows = new StringBuilder();
        for (int j = 0; j < mover.hands(i, bar); j++) {
            rows.append(j == 0 ? "" : " ").append(hand(mover, i, bar, j));
        }
        return rows.toString();
    }

    /** A HAND as a row like "x32010" (x for NONE). */
    static String hand(ChordMover mover, int i, int bar, int j) {
        StringBuilder row = new StringBuilder();
        for (int s = 0; s < mover.count(3); s++) {
            int fret = mover.fret(i, bar, j, s);
            row.append(fret == ChordMover.NONE ? "x" : Integer.toString(fret));
        }
        return row.toString();
    }
}
