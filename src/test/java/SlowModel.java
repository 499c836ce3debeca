import java.util.ArrayList;
import java.util.Arrays;
import java.util.List;
import java.util.NoSuchElementException;

/**
 * The document once more, written as plainly as can be and by other means than the class: texts
 * as Strings, every HAND tried. The random runs compare the two.
 */
final class SlowModel {
    private static final String[] KINDS = {
        "", "m", "7", "m7", "maj7", "dim", "aug", "sus4", "sus2", "6", "m6", "dim7", "9", "add9"
    };
    private static final int[][] TONES = {
        {0, 4, 7}, {0, 3, 7}, {0, 4, 7, 10}, {0, 3, 7, 10}, {0, 4, 7, 11}, {0, 3, 6}, {0, 4, 8},
        {0, 5, 7}, {0, 2, 7}, {0, 4, 7, 9}, {0, 3, 7, 9}, {0, 3, 6, 9}, {0, 2, 4, 7, 10}, {0, 2, 4, 7}
    };
    private static final String[] SIGNS = {"bb", "b", "", "#", "##"};

    /** root, kind, bass, line, place in its LINE's words. */
    private record Chord(int root, int kind, int bass, int line, int place) {
    }

    private String tape = "";
    private List<String> words = new ArrayList<>();
    private List<Chord> chords = new ArrayList<>();
    private boolean songRead;
    private int fault;
    private int place = -1;
    private int key;
    private String out = "";
    private final List<Integer> strings = new ArrayList<>();
    private int[] played;
    private int playedBar = -1;

    int feed(int... numbers) {
        if (tape.length() + 20 > 1200) {
            return -1;
        }
        for (int number : numbers) {
            for (int k = 3; k >= 0; k--) {
                tape += (char) ((number >>> 8 * k) & 255);
            }
        }
        return tape.length();
    }

    int song(int n) {
        if (n < 0 || n > tape.length()) {
            throw new IllegalArgumentException();
        }
        String text = tape.substring(0, n);
        tape = "";
        List<String> newWords = new ArrayList<>();
        List<Chord> newChords = new ArrayList<>();
        int[] result = parse(text, newWords, newChords);
        fault = result[0];
        place = result[1];
        if (fault == 0) {
            words = newWords;
            chords = newChords;
            songRead = true;
            playedBar = -1;
        }
        return fault;
    }

    private static int[] parse(String text, List<String> newWords, List<Chord> newChords) {
        String line = "";
        int at = 0;
        while (at < text.length()) {
            char sign = text.charAt(at);
            if (sign == '\n') {
                if (newWords.size() == 39) {
                    return new int[] {2, at};
                }
                newWords.add(line);
                line = "";
                at++;
            } else if (sign == '[') {
                if (newChords.size() == 60) {
                    return new int[] {2, at};
                }
                int[] parts = new int[3];
                int end = parseName(text, at + 1, parts);
                if (end < 0) {
                    return new int[] {1, -end};
                }
                newChords.add(new Chord(parts[0], parts[1], parts[2], newWords.size(), line.length()));
                at = end;
            } else if (sign >= ' ' && sign <= '~' && sign != ']') {
                line += sign;
                at++;
            } else {
                return new int[] {1, at};
            }
        }
        newWords.add(line);
        return new int[] {0, -1};
    }

    /** The place behind the ], or below 0 that of the fault. */
    private static int parseName(String text, int start, int[] parts) {
        String note = longest(text, start, notes());
        if (note == null) {
            return -start;
        }
        parts[0] = noteOf(note);
        parts[2] = parts[0];
        int at = start + note.length();
        String kind = longest(text, at, KINDS);
        parts[1] = Arrays.asList(KINDS).indexOf(kind);
        at += kind.length();
        if (text.startsWith("/", at)) {
            String bass = longest(text, at + 1, notes());
            if (bass == null) {
                return -(at + 1);
            }
            parts[2] = noteOf(bass);
            at += 1 + bass.length();
        }
        return text.startsWith("]", at) ? at + 1 : -at;
    }

    private static String longest(String text, int at, String[] all) {
        String best = null;
        for (String one : all) {
            if (text.startsWith(one, at) && (best == null || one.length() > best.length())) {
                best = one;
            }
        }
        return best;
    }

    private static String[] notes() {
        String[] all = new String[35];
        for (int k = 0; k < 35; k++) {
            all[k] = spelled(k - 15);
        }
        return all;
    }

    private static String spelled(int note) {
        return "FCGDAEB".charAt((note + 15) % 7) + SIGNS[(note + 15) / 7];
    }

    private static int noteOf(String spelled) {
        return Arrays.asList(notes()).indexOf(spelled) - 15;
    }

    private static int tone(int note) {
        return (7 * note + 7 * 24) % 12;
    }

    int fault(int what) {
        return pick(what, fault, place);
    }

    private static int pick(int what, int... numbers) {
        if (what < 0 || what >= numbers.length) {
            throw new NoSuchElementException();
        }
        return numbers[what];
    }

    int key(int k) {
        if (Math.abs((long) k) > 7) {
            throw new IllegalArgumentException();
        }
        int before = key;
        key = k;
        return before;
    }

    int move(int n) {
        if (Math.abs((long) n) > 11) {
            throw new IllegalArgumentException();
        }
        int before = key;
        key += 7 * n;
        while (key > 6) {
            key -= 12;
        }
        while (key < -5) {
            key += 12;
        }
        List<Chord> moved = new ArrayList<>();
        for (Chord c : chords) {
            moved.add(new Chord(shifted(c.root, key - before), c.kind, shifted(c.bass, key - before),
                c.line, c.place));
        }
        chords = moved;
        playedBar = -1;
        return key;
    }

    private static int shifted(int note, int by) {
        int shifted = note + by;
        while (shifted > 19 || shifted < -15) {
            shifted += shifted > 19 ? -12 : 12;
        }
        return shifted;
    }

    private Chord at(int i) {
        if (i < 0 || i >= chords.size()) {
            throw new NoSuchElementException();
        }
        return chords.get(i);
    }

    private static int tones(Chord c) {
        int bits = 1 << tone(c.bass);
        for (int above : TONES[c.kind]) {
            bits |= 1 << (tone(c.root) + above) % 12;
        }
        return bits;
    }

    int chord(int i, int what) {
        Chord c = at(i);
        return pick(what, c.root, c.kind, c.bass, tones(c), c.line);
    }

    private static String nameOf(Chord c) {
        return spelled(c.root) + KINDS[c.kind] + (c.bass == c.root ? "" : "/" + spelled(c.bass));
    }

    int name(int i) {
        out = nameOf(at(i));
        return out.length();
    }

    int write() {
        List<String> rows = new ArrayList<>();
        for (int line = 0; line < words.size(); line++) {
            String upper = "";
            StringBuilder lower = new StringBuilder();
            String text = words.get(line);
            int done = 0;
            boolean any = false;
            for (Chord c : chords) {
                if (c.line != line) {
                    continue;
                }
                lower.append(text, done, c.place);
                done = c.place;
                boolean within = letterAt(text, done - 1) && letterAt(text, done);
                while (any && lower.length() < upper.length() + 1) {
                    lower.append(within ? '-' : ' ');
                }
                upper = upper + " ".repeat(lower.length() - upper.length()) + nameOf(c);
                any = true;
            }
            lower.append(text.substring(done));
            if (any) {
                rows.add(upper);
            }
            rows.add(lower.toString());
        }
        out = String.join("\n", rows);
        return out.length();
    }

    private static boolean letterAt(String text, int k) {
        return k >= 0 && k < text.length() && text.substring(k, k + 1).matches("[A-Za-z]");
    }

    int told(int k) {
        if (k < 0 || k >= Math.min(4000, out.length())) {
            throw new NoSuchElementException();
        }
        return out.charAt(k);
    }

    int string(int pitch) {
        if (pitch < 0 || pitch > 60) {
            throw new IllegalArgumentException();
        }
        if (strings.size() == 6) {
            return -1;
        }
        strings.add(pitch);
        playedBar = -1;
        return strings.size();
    }

    int unstring() {
        int before = strings.size();
        strings.clear();
        playedBar = -1;
        return before;
    }

    private static void needBar(int bar) {
        if (bar < 0 || bar > 7) {
            throw new IllegalArgumentException();
        }
    }

    /** Every row of NONE and the FRETS whose TONES are the CHORD's, then those that fit in order. */
    private List<int[]> firstHands(Chord c, int bar) {
        List<int[]> rows = new ArrayList<>();
        rows.add(new int[0]);
        for (int pitch : strings) {
            List<int[]> longer = new ArrayList<>();
            for (int[] row : rows) {
                for (int fret = -1; fret <= 9; fret++) {
                    if (fret == -1 || (tones(c) & 1 << (pitch + bar + fret) % 12) != 0) {
                        int[] more = Arrays.copyOf(row, row.length + 1);
                        more[row.length] = fret;
                        longer.add(more);
                    }
                }
            }
            rows = longer;
        }
        List<int[]> fitting = new ArrayList<>();
        for (int[] row : rows) {
            if (fits(row, c, bar)) {
                fitting.add(row);
            }
        }
        fitting.sort((one, other) -> strain(one) != strain(other)
            ? Integer.compare(strain(one), strain(other)) : Arrays.compare(one, other));
        return fitting.subList(0, Math.min(6, fitting.size()));
    }

    private boolean fits(int[] row, Chord c, int bar) {
        int sounding = 0;
        int least = Integer.MAX_VALUE;
        for (int s = 0; s < row.length; s++) {
            if (row[s] >= 0) {
                int sound = strings.get(s) + bar + row[s];
                sounding |= 1 << sound % 12;
                least = Math.min(least, sound);
            }
        }
        int needn = Integer.bitCount(tones(c)) >= 4 ? 1 << (tone(c.root) + 7) % 12 : 0;
        if (sounding == 0 || (sounding | needn) != (tones(c) | needn) || least % 12 != tone(c.bass)) {
            return false;
        }
        int[] pressed = Arrays.stream(row).filter(fret -> fret > 0).sorted().toArray();
        boolean wide = pressed.length > 0 && pressed[pressed.length - 1] > pressed[0] + 3;
        return !wide && fingers(row) <= 4;
    }

    private static int fingers(int[] row) {
        int[] pressed = Arrays.stream(row).filter(fret -> fret > 0).sorted().toArray();
        boolean open = Arrays.stream(row).anyMatch(fret -> fret == 0);
        if (open || pressed.length == 0) {
            return pressed.length;
        }
        return 1 + (int) Arrays.stream(pressed).filter(fret -> fret > pressed[0]).count();
    }

    private static int strain(int[] row) {
        int greatest = Math.max(0, Arrays.stream(row).max().orElse(0));
        int silent = (int) Arrays.stream(row).filter(fret -> fret < 0).count();
        return 3 * fingers(row) + greatest + 4 * silent;
    }

    int hands(int i, int bar) {
        Chord c = at(i);
        needBar(bar);
        return firstHands(c, bar).size();
    }

    int fret(int i, int bar, int j, int string) {
        Chord c = at(i);
        needBar(bar);
        List<int[]> all = firstHands(c, bar);
        if (j < 0 || j >= all.size() || string < -1 || string >= strings.size()) {
            throw new NoSuchElementException();
        }
        return string == -1 ? strain(all.get(j)) : all.get(j)[string];
    }

    private static int change(int[] one, int[] other) {
        int sum = 0;
        for (int s = 0; s < one.length; s++) {
            sum += Math.abs(Math.max(0, one[s]) - Math.max(0, other[s]));
        }
        return sum;
    }

    /** For each HAND of the latest CHORD its best row, the sum ahead; forward through the song. */
    private int[] bestRow(int bar) {
        List<int[]> ends = new ArrayList<>();
        List<int[]> handsAhead = null;
        for (Chord c : chords) {
            List<int[]> all = firstHands(c, bar);
            List<int[]> next = new ArrayList<>();
            for (int h = 0; h < all.size(); h++) {
                int[] best = handsAhead == null ? new int[] {strain(all.get(h)), h} : null;
                for (int[] row : ends) {
                    int[] longer = Arrays.copyOf(row, row.length + 1);
                    longer[0] += change(handsAhead.get(row[row.length - 1]), all.get(h));
                    longer[0] += strain(all.get(h));
                    longer[row.length] = h;
                    best = best == null || Arrays.compare(longer, best) < 0 ? longer : best;
                }
                if (best != null) {
                    next.add(best);
                }
            }
            if (next.isEmpty()) {
                return null;
            }
            ends = next;
            handsAhead = all;
        }
        return ends.stream().min(Arrays::compare).orElse(null);
    }

    int play(int bar) {
        needBar(bar);
        int[] best = bestRow(bar);
        if (best == null) {
            return -1;
        }
        played = best;
        playedBar = bar;
        return best[0];
    }

    int easiest() {
        int easiest = -1;
        int[] least = null;
        for (int bar = 0; bar < 8; bar++) {
            int[] best = bestRow(bar);
            if (best != null && (least == null || best[0] < least[0])) {
                least = best;
                easiest = bar;
            }
        }
        if (least != null) {
            played = least;
            playedBar = easiest;
        }
        return easiest;
    }

    int played(int i) {
        if (playedBar == -1 || i < -1 || i >= chords.size()) {
            return -1;
        }
        return i == -1 ? playedBar : played[i + 1];
    }

    int guess() {
        int[] fitting = new int[13];
        for (int k = -6; k <= 6; k++) {
            int scale = 0;
            for (int note = k - 1; note <= k + 5; note++) {
                scale |= 1 << tone(note);
            }
            for (Chord c : chords) {
                fitting[k + 6] += (tones(c) | scale) == scale ? 1 : 0;
            }
        }
        int most = Arrays.stream(fitting).max().getAsInt();
        if (Arrays.stream(fitting).filter(many -> many == most).count() > 1) {
            return -100;
        }
        int k = 0;
        while (fitting[k] != most) {
            k++;
        }
        return k - 6;
    }

    int count(int what) {
        return pick(what, chords.size(), songRead ? words.size() : 0, key, strings.size(),
            Math.min(4000, out.length()), tape.length());
    }
}
