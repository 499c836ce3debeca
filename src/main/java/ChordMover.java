import java.util.Arrays;
import java.util.NoSuchElementException;

/**
 * A mover of chords: reads songs with chord names among their words, moves them to other keys,
 * writes them with the names above their syllables, finds hands on the strings of an instrument
 * and guesses keys. The numbered promises stand in ../shared/DOC.md.
 */
public final class ChordMover {
    public static final int NONE = -1;

    private static final int MOST_BYTES = 1200;
    private static final int MOST_CHORDS = 60;
    private static final int MOST_LINES = 40;
    private static final int MOST_KEPT = 4000;
    private static final int MOST_STRINGS = 6;
    private static final int MOST_HANDS = 6;
    private static final int MOST_FINGERS = 4;
    private static final int BARS = 8;
    private static final int HIGHEST_FRET = 9;
    private static final int HIGHEST_PITCH = 60;
    private static final int WIDEST_SPREAD = 3;
    private static final int LINE_END = 10;
    private static final int BLANK = 32;
    private static final int LAST_WORD_BYTE = 126;
    private static final int NO_GUESS = -100;

    private final int[] tape = new int[MOST_BYTES];
    private int tapeLength;
    private final Reader reader = new Reader();
    private Song current = new Song();
    // A song is read into the spare one, so that a FAULT leaves the song ahead as it was.
    private Song spare = new Song();
    private int latestFault;
    private int latestPlace = NONE;
    private int keyNow;
    private final Page out = new Page();
    private final Writer writer = new Writer();
    private final Finder finder = new Finder();
    private final HandBook book = new HandBook();
    private final Plan plan = new Plan();

    public ChordMover() {
    }

    public int feed(int a, int b, int c, int d, int e) {
        if (tapeLength + 20 > MOST_BYTES) {
            return NONE;
        }
        takeFour(a);
        takeFour(b);
        takeFour(c);
        takeFour(d);
        takeFour(e);
        return tapeLength;
    }

    public int song(int n) throws IllegalArgumentException {
        if (n < 0 || n > tapeLength) {
            throw new IllegalArgumentException("the tape has not so many bytes");
        }
        reader.readInto(spare, tape, n);
        tapeLength = 0;
        latestFault = reader.fault;
        latestPlace = reader.place;
        if (latestFault == 0) {
            Song ahead = current;
            current = spare;
            spare = ahead;
            forgetHands();
        }
        return latestFault;
    }

    public int fault(int what) throws NoSuchElementException {
        switch (what) {
            case 0: return latestFault;
            case 1: return latestPlace;
            default: throw new NoSuchElementException("a fault has no such number");
        }
    }

    public int key(int k) throws IllegalArgumentException {
        if (k < -7 || k > 7) {
            throw new IllegalArgumentException("a key is -7 to 7");
        }
        int before = keyNow;
        keyNow = k;
        return before;
    }

    public int move(int n) throws IllegalArgumentException {
        if (n < -11 || n > 11) {
            throw new IllegalArgumentException("a move is -11 to 11");
        }
        int moved = Math.floorMod(keyNow + 7 * n + 5, 12) - 5;
        current.shiftNotes(moved - keyNow);
        keyNow = moved;
        forgetHands();
        return moved;
    }

    public int chord(int i, int what) throws NoSuchElementException {
        if (!current.hasChord(i)) {
            throw new NoSuchElementException("there is no such chord");
        }
        switch (what) {
            case 0: return current.root[i];
            case 1: return current.kind[i];
            case 2: return current.bass[i];
            case 3: return current.tonesOf(i);
            case 4: return current.line[i];
            default: throw new NoSuchElementException("a chord has no such number");
        }
    }

    public int name(int i) throws NoSuchElementException {
        if (!current.hasChord(i)) {
            throw new NoSuchElementException("there is no such chord");
        }
        out.length = 0;
        out.putName(current, i);
        return out.length;
    }

    public int write() {
        out.length = 0;
        writer.putSong(current, out);
        return out.length;
    }

    public int told(int k) throws NoSuchElementException {
        if (k < 0 || k >= out.keptLength()) {
            throw new NoSuchElementException("no such byte is kept");
        }
        return out.kept[k];
    }

    public int string(int pitch) throws IllegalArgumentException {
        if (pitch < 0 || pitch > HIGHEST_PITCH) {
            throw new IllegalArgumentException("a pitch is 0 to 60");
        }
        if (finder.strings >= MOST_STRINGS) {
            return NONE;
        }
        finder.pitch[finder.strings] = pitch;
        finder.strings++;
        forgetHands();
        return finder.strings;
    }

    public int unstring() {
        int before = finder.strings;
        finder.strings = 0;
        forgetHands();
        return before;
    }

    public int hands(int i, int bar) throws NoSuchElementException, IllegalArgumentException {
        if (!current.hasChord(i)) {
            throw new NoSuchElementException("there is no such chord");
        }
        if (!isBar(bar)) {
            throw new IllegalArgumentException("a bar is at 0 to 7");
        }
        return book.found[book.pageOf(current, finder, i, bar)];
    }

    public int fret(int i, int bar, int j, int string)
            throws NoSuchElementException, IllegalArgumentException {
        int many = hands(i, bar);
        if (j < 0 || j >= many) {
            throw new NoSuchElementException("there is no such hand");
        }
        if (string < NONE || string >= finder.strings) {
            throw new NoSuchElementException("there is no such string");
        }
        int hand = book.rows[book.pageOf(current, finder, i, bar) * MOST_HANDS + j];
        return string == NONE ? Hand.strainOf(hand) : Hand.fretOf(hand, string);
    }

    public int play(int bar) throws IllegalArgumentException {
        if (!isBar(bar)) {
            throw new IllegalArgumentException("a bar is at 0 to 7");
        }
        int sum = plan.leastSum(current, finder, book, bar);
        if (sum != NONE) {
            plan.keepAt(current.chords, bar);
        }
        return sum;
    }

    public int easiest() {
        int best = NONE;
        int bestSum = NONE;
        for (int bar = 0; bar < BARS; bar++) {
            int sum = plan.leastSum(current, finder, book, bar);
            if (sum != NONE && (best == NONE || sum < bestSum)) {
                best = bar;
                bestSum = sum;
            }
        }
        if (best != NONE) {
            plan.leastSum(current, finder, book, best);
            plan.keepAt(current.chords, best);
        }
        return best;
    }

    public int played(int i) {
        if (plan.keptBar == NONE || i == NONE) {
            return plan.keptBar;
        }
        return current.hasChord(i) ? plan.kept[i] : NONE;
    }

    public int guess() {
        int best = NO_GUESS;
        int most = -1;
        for (int k = -6; k <= 6; k++) {
            int fitting = current.chordsWithin(Notes.scaleOf(k));
            if (fitting > most) {
                most = fitting;
                best = k;
            } else if (fitting == most) {
                best = NO_GUESS;
            }
        }
        return best;
    }

    public int count(int what) throws NoSuchElementException {
        switch (what) {
            case 0: return current.chords;
            case 1: return current.lines;
            case 2: return keyNow;
            case 3: return finder.strings;
            case 4: return out.keptLength();
            case 5: return tapeLength;
            default: throw new NoSuchElementException("nothing is counted under this number");
        }
    }

    private void takeFour(int four) {
        for (int shift = 24; shift >= 0 && tapeLength < MOST_BYTES; shift -= 8) {
            tape[tapeLength] = (four >> shift) & 255;
            tapeLength++;
        }
    }

    /** Hands and what is PLAYED hold for one song at one pitch on one row of strings alone. */
    private void forgetHands() {
        book.forget();
        plan.keptBar = NONE;
    }

    private static boolean isBar(int bar) {
        return bar >= 0 && bar < BARS;
    }

    /** NOTES as places on the row of fifths, and what they sound. */
    private static final class Notes {
        static final int LEAST = -15;
        static final int GREATEST = 19;
        static final int NO_NOTE = -100;
        static final int ALL_TONES = 4095;
        private static final String LETTERS = "FCGDAEB";

        static int toneOf(int note) {
            return Math.floorMod(7 * note, 12);
        }

        static int ofLetter(int sign) {
            if (sign < 'A' || sign > 'G') {
                return NO_NOTE;
            }
            return LETTERS.indexOf((char) sign) - 1;
        }

        static char letterOf(int note) {
            return LETTERS.charAt(Math.floorMod(note + 1, 7));
        }

        /** How many # a NOTE is spelled with; below 0 they are b. */
        static int sharpsOf(int note) {
            return Math.floorDiv(note + 1, 7);
        }

        static int folded(int note) {
            int folded = note;
            while (folded > GREATEST) {
                folded -= 12;
            }
            while (folded < LEAST) {
                folded += 12;
            }
            return folded;
        }

        /** The TONES as bits of the seven NOTES that belong to a KEY. */
        static int scaleOf(int key) {
            int tones = 0;
            for (int note = key - 1; note <= key + 5; note++) {
                tones |= 1 << toneOf(note);
            }
            return tones;
        }
    }

    /** The KINDS by their numbers. */
    private static final class Kinds {
        /** TONES above the ROOT's, as bits. */
        private static final int[] TONES = {
            0b000010010001, 0b000010001001, 0b010010010001, 0b010010001001,
            0b100010010001, 0b000001001001, 0b000100010001, 0b000010100001,
            0b000010000101, 0b001010010001, 0b001010001001, 0b001001001001,
            0b010010010101, 0b000010010101
        };
        static final int MANY = 14;

        static String textOf(int kind) {
            switch (kind) {
                case 1: return "m";
                case 2: return "7";
                case 3: return "m7";
                case 4: return "maj7";
                case 5: return "dim";
                case 6: return "aug";
                case 7: return "sus4";
                case 8: return "sus2";
                case 9: return "6";
                case 10: return "m6";
                case 11: return "dim7";
                case 12: return "9";
                case 13: return "add9";
                default: return "";
            }
        }

        static int tonesAbove(int rootTone, int kind) {
            if (kind < 0 || kind >= TONES.length) {
                return 0;
            }
            int tones = TONES[kind] << rootTone;
            return (tones | (tones >> 12)) & Notes.ALL_TONES;
        }
    }

    /** A song that was read: its items along the text, and its CHORDS. */
    private static final class Song {
        static final int FIRST_CHORD_ITEM = 256;

        /** Each a byte of WORDS, LINE_END, or FIRST_CHORD_ITEM and a CHORD's number together. */
        final int[] items = new int[MOST_BYTES];
        int size;
        int lines;
        int chords;
        final int[] root = new int[MOST_CHORDS];
        final int[] kind = new int[MOST_CHORDS];
        final int[] bass = new int[MOST_CHORDS];
        final int[] line = new int[MOST_CHORDS];

        void startAnew() {
            size = 0;
            lines = 1;
            chords = 0;
        }

        void addItem(int item) {
            if (size < MOST_BYTES) {
                items[size] = item;
                size++;
            }
        }

        void addLineEnd() {
            addItem(LINE_END);
            lines++;
        }

        void addChord(int rootNote, int kindNumber, int bassNote) {
            if (chords < MOST_CHORDS) {
                root[chords] = rootNote;
                kind[chords] = kindNumber;
                bass[chords] = bassNote;
                line[chords] = lines - 1;
                addItem(FIRST_CHORD_ITEM + chords);
                chords++;
            }
        }

        boolean hasChord(int i) {
            return i >= 0 && i < chords;
        }

        int tonesOf(int i) {
            int ofKind = Kinds.tonesAbove(Notes.toneOf(root[i]), kind[i]);
            return ofKind | (1 << Notes.toneOf(bass[i]));
        }

        /** Those of the CHORD's TONES that a HAND can't do without. */
        int neededOf(int i, int tones) {
            if (Integer.bitCount(tones) < 4) {
                return tones;
            }
            int fifth = (Notes.toneOf(root[i]) + 7) % 12;
            return tones & ~(1 << fifth);
        }

        /** The first CHORD that the same HANDS fit, for these need be sought only once. */
        int firstLike(int i) {
            for (int k = 0; k < i; k++) {
                if (kind[k] == kind[i] && Notes.toneOf(root[k]) == Notes.toneOf(root[i])
                        && Notes.toneOf(bass[k]) == Notes.toneOf(bass[i])) {
                    return k;
                }
            }
            return i;
        }

        void shiftNotes(int by) {
            for (int i = 0; i < chords; i++) {
                root[i] = Notes.folded(root[i] + by);
                bass[i] = Notes.folded(bass[i] + by);
            }
        }

        int chordsWithin(int tones) {
            int many = 0;
            for (int i = 0; i < chords; i++) {
                if ((tonesOf(i) & ~tones) == 0) {
                    many++;
                }
            }
            return many;
        }

        /** Where the LINE ends whose first item has this number. */
        int endOfLine(int start) {
            int end = start;
            while (end < size && items[end] != LINE_END) {
                end++;
            }
            return end;
        }

        boolean chordsStandIn(int start, int end) {
            for (int k = start; k < end && k < size; k++) {
                if (items[k] >= FIRST_CHORD_ITEM) {
                    return true;
                }
            }
            return false;
        }

        /** The first byte of WORDS from there on in the LINE, CHORDS aside. */
        int nextWordByte(int start, int end) {
            for (int k = start; k < end && k < size; k++) {
                if (items[k] < FIRST_CHORD_ITEM) {
                    return items[k];
                }
            }
            return NONE;
        }
    }

    /** Reads a TEXT up to its first FAULT. */
    private static final class Reader {
        private int[] text = new int[0];
        private int length;
        private int at;
        int fault;
        int place = NONE;

        void readInto(Song song, int[] bytes, int n) {
            text = bytes;
            length = Math.min(n, bytes.length);
            at = 0;
            fault = 0;
            place = NONE;
            song.startAnew();
            // Each step goes on by one byte at least, so these are enough of them.
            for (int step = 0; step < length && at < length && fault == 0; step++) {
                readItem(song);
            }
        }

        private void readItem(Song song) {
            int sign = signAt(at);
            if (sign == '[') {
                readChord(song);
            } else if (sign == LINE_END) {
                readLineEnd(song);
            } else if (sign < BLANK || sign > LAST_WORD_BYTE || sign == ']') {
                refuse(1);
            } else {
                song.addItem(sign);
                at++;
            }
        }

        private void readLineEnd(Song song) {
            if (song.lines >= MOST_LINES) {
                refuse(2);
                return;
            }
            song.addLineEnd();
            at++;
        }

        private void readChord(Song song) {
            if (song.chords >= MOST_CHORDS) {
                refuse(2);
                return;
            }
            at++;
            int root = readNote();
            if (root == Notes.NO_NOTE) {
                refuse(1);
                return;
            }
            int kind = readKind();
            int bass = root;
            if (signAt(at) == '/') {
                at++;
                bass = readNote();
            }
            if (bass == Notes.NO_NOTE || signAt(at) != ']') {
                refuse(1);
                return;
            }
            at++;
            song.addChord(root, kind, bass);
        }

        private int readNote() {
            int letter = Notes.ofLetter(signAt(at));
            if (letter == Notes.NO_NOTE) {
                return Notes.NO_NOTE;
            }
            at++;
            int sign = signAt(at);
            if (sign != '#' && sign != 'b') {
                return letter;
            }
            int step = sign == '#' ? 7 : -7;
            at++;
            if (signAt(at) != sign) {
                return letter + step;
            }
            at++;
            return letter + 2 * step;
        }

        private int readKind() {
            int best = 0;
            int longest = 0;
            for (int kind = 0; kind < Kinds.MANY; kind++) {
                String kindText = Kinds.textOf(kind);
                if (kindText.length() > longest && standsHere(kindText)) {
                    best = kind;
                    longest = kindText.length();
                }
            }
            at += longest;
            return best;
        }

        private boolean standsHere(String sought) {
            for (int k = 0; k < sought.length(); k++) {
                if (signAt(at + k) != sought.charAt(k)) {
                    return false;
                }
            }
            return true;
        }

        /** NONE behind the text's end: no byte is that, so it stands for none that is sought. */
        private int signAt(int k) {
            return k >= 0 && k < length ? text[k] : NONE;
        }

        private void refuse(int number) {
            fault = number;
            place = at;
        }
    }

    /** OUT: counts all bytes, keeps the first ones. */
    private static final class Page {
        final int[] kept = new int[MOST_KEPT];
        int length;

        int keptLength() {
            return Math.min(length, MOST_KEPT);
        }

        void put(int sign) {
            if (length >= 0 && length < MOST_KEPT) {
                kept[length] = sign;
            }
            length++;
        }

        void putMany(int sign, int many) {
            for (int k = 0; k < many; k++) {
                put(sign);
            }
        }

        void putName(Song song, int i) {
            putNote(song.root[i]);
            String kindText = Kinds.textOf(song.kind[i]);
            for (int k = 0; k < kindText.length(); k++) {
                put(kindText.charAt(k));
            }
            if (song.bass[i] != song.root[i]) {
                put('/');
                putNote(song.bass[i]);
            }
        }

        private void putNote(int note) {
            int sharps = Notes.sharpsOf(note);
            put(Notes.letterOf(note));
            putMany('#', sharps);
            putMany('b', -sharps);
        }
    }

    /** Lays a song out as WRITTEN. */
    private static final class Writer {
        /** For each CHORD how many bytes the WORDS are pushed apart by below it. */
        private final int[] gap = new int[MOST_CHORDS];

        void putSong(Song song, Page out) {
            int start = 0;
            for (int line = 0; line < song.lines; line++) {
                if (line > 0) {
                    out.put(LINE_END);
                }
                int end = song.endOfLine(start);
                if (song.chordsStandIn(start, end)) {
                    putNames(song, start, end, out);
                    out.put(LINE_END);
                }
                putWords(song, start, end, out);
                start = end + 1;
            }
        }

        private void putNames(Song song, int start, int end, Page out) {
            int lower = 0;
            int upper = 0;
            for (int k = start; k < end && k < song.size; k++) {
                int i = song.items[k] - Song.FIRST_CHORD_ITEM;
                if (!song.hasChord(i)) {
                    lower++;
                    continue;
                }
                int free = upper == 0 ? 0 : upper + 1;
                gap[i] = Math.max(0, free - lower);
                lower += gap[i];
                out.putMany(BLANK, lower - upper);
                int before = out.length;
                out.putName(song, i);
                upper = lower + out.length - before;
            }
        }

        private void putWords(Song song, int start, int end, Page out) {
            int ahead = NONE;
            for (int k = start; k < end && k < song.size; k++) {
                int item = song.items[k];
                int i = item - Song.FIRST_CHORD_ITEM;
                if (song.hasChord(i)) {
                    boolean inWord = isLetter(ahead) && isLetter(song.nextWordByte(k, end));
                    out.putMany(inWord ? '-' : BLANK, gap[i]);
                } else {
                    out.put(item);
                    ahead = item;
                }
            }
        }

        private static boolean isLetter(int sign) {
            return (sign >= 'A' && sign <= 'Z') || (sign >= 'a' && sign <= 'z');
        }
    }

    /**
     * A HAND in one number: its STRAIN, below it four bits for each STRING, the first one highest,
     * with its FRET and one. So the numbers are ordered as HANDS are.
     */
    private static final class Hand {
        private static final int ROW_BITS = 4 * MOST_STRINGS;

        static int of(int strain, int[] frets, int strings) {
            int hand = strain << ROW_BITS;
            for (int s = 0; s < strings && s < frets.length; s++) {
                hand |= (frets[s] + 1) << shiftOf(s);
            }
            return hand;
        }

        static int strainOf(int hand) {
            return hand >> ROW_BITS;
        }

        static int fretOf(int hand, int string) {
            return ((hand >> shiftOf(string)) & 15) - 1;
        }

        static int change(int one, int other) {
            int sum = 0;
            for (int s = 0; s < MOST_STRINGS; s++) {
                sum += Math.abs(Math.max(0, fretOf(one, s)) - Math.max(0, fretOf(other, s)));
            }
            return sum;
        }

        private static int shiftOf(int string) {
            return 4 * (MOST_STRINGS - 1 - string);
        }
    }

    /** The STRINGS, and the search for the first HANDS on them. */
    private static final class Finder {
        final int[] pitch = new int[MOST_STRINGS];
        int strings;
        final int[] best = new int[MOST_HANDS];
        int found;
        private final int[] frets = new int[MOST_STRINGS];
        private int barNow;
        private int tones;
        private int needed;
        private int bassTone;

        void search(Song song, int i, int bar) {
            barNow = bar;
            tones = song.tonesOf(i);
            needed = song.neededOf(i, tones);
            bassTone = Notes.toneOf(song.bass[i]);
            found = 0;
            layFrom(0);
        }

        /** Lays the STRINGS from this one on in each way, in the order of rows. */
        private void layFrom(int s) {
            if (s >= strings || s >= MOST_STRINGS) {
                if (leastIsBass()) {
                    keep(Hand.of(strainOfFirst(strings), frets, strings));
                }
                return;
            }
            for (int f = NONE; f <= HIGHEST_FRET; f++) {
                if (f == NONE || ((tones >> toneAt(s, f)) & 1) == 1) {
                    frets[s] = f;
                    if (mayFit(s + 1)) {
                        layFrom(s + 1);
                    }
                }
            }
        }

        private int toneAt(int s, int f) {
            return (pitch[s] + barNow + f) % 12;
        }

        /**
         * Whether the first STRINGS, laid so, can be those of a HAND among the first ones. Spread,
         * FINGERS and STRAIN never get less by a further STRING, and of like STRAINS the later row
         * comes behind.
         */
        private boolean mayFit(int laid) {
            int strain = strainOfFirst(laid);
            if (strain == NONE) {
                return false;
            }
            if (found == MOST_HANDS && strain >= Hand.strainOf(best[MOST_HANDS - 1])) {
                return false;
            }
            return Integer.bitCount(needed & ~soundingOfFirst(laid)) <= strings - laid;
        }

        /** NONE if the FRETS are too far apart or the FINGERS too many. */
        private int strainOfFirst(int laid) {
            int silent = 0;
            int open = 0;
            int above = 0;
            int greatest = 0;
            int least = HIGHEST_FRET;
            int atLeast = 0;
            for (int s = 0; s < laid && s < MOST_STRINGS; s++) {
                int f = frets[s];
                if (f == NONE) {
                    silent++;
                } else if (f == 0) {
                    open++;
                } else {
                    above++;
                    greatest = f > greatest ? f : greatest;
                    if (f < least) {
                        least = f;
                        atLeast = 0;
                    }
                    atLeast += f == least ? 1 : 0;
                }
            }
            int fingers = open == 0 && above > 0 ? above - atLeast + 1 : above;
            if (greatest - least > WIDEST_SPREAD || fingers > MOST_FINGERS) {
                return NONE;
            }
            return 3 * fingers + greatest + 4 * silent;
        }

        private int soundingOfFirst(int laid) {
            int sounding = 0;
            for (int s = 0; s < laid && s < MOST_STRINGS; s++) {
                if (frets[s] != NONE) {
                    sounding |= 1 << toneAt(s, frets[s]);
                }
            }
            return sounding;
        }

        /** False too if no STRING sounds. */
        private boolean leastIsBass() {
            int least = NONE;
            for (int s = 0; s < strings && s < MOST_STRINGS; s++) {
                int sound = pitch[s] + barNow + frets[s];
                if (frets[s] != NONE && (least == NONE || sound < least)) {
                    least = sound;
                }
            }
            return least != NONE && least % 12 == bassTone;
        }

        private void keep(int hand) {
            if (found < MOST_HANDS) {
                found++;
            } else if (best[MOST_HANDS - 1] <= hand) {
                return;
            }
            int at = found - 1;
            while (at > 0 && best[at - 1] > hand) {
                best[at] = best[at - 1];
                at--;
            }
            best[at] = hand;
        }
    }

    /** The HANDS that were found already, a page for each CHORD at each BAR. */
    private static final class HandBook {
        final int[] rows = new int[MOST_CHORDS * BARS * MOST_HANDS];
        /** How many HANDS stand on a page; NONE: they were not sought yet. */
        final int[] found = new int[MOST_CHORDS * BARS];

        HandBook() {
            Arrays.fill(found, NONE);
        }

        void forget() {
            Arrays.fill(found, NONE);
        }

        int pageOf(Song song, Finder finder, int i, int bar) {
            int first = song.firstLike(i);
            int page = first * BARS + bar;
            if (found[page] == NONE) {
                finder.search(song, first, bar);
                System.arraycopy(finder.best, 0, rows, page * MOST_HANDS, finder.found);
                found[page] = finder.found;
            }
            return page;
        }
    }

    /** Which HANDS a song is PLAYED with. */
    private static final class Plan {
        /** For each HAND of each CHORD the least sum from there to the song's end. */
        private final int[] rest = new int[MOST_CHORDS * MOST_HANDS];
        /** And the first HAND of the next CHORD that has it. */
        private final int[] next = new int[MOST_CHORDS * MOST_HANDS];
        private int first;
        final int[] kept = new int[MOST_CHORDS];
        int keptBar = NONE;

        /** NONE if there are no CHORDS, or one without a HAND there. */
        int leastSum(Song song, Finder finder, HandBook book, int bar) {
            int pageBehind = NONE;
            for (int i = song.chords - 1; i >= 0; i--) {
                int page = book.pageOf(song, finder, i, bar);
                if (book.found[page] == 0) {
                    return NONE;
                }
                weigh(book, i, page, pageBehind);
                pageBehind = page;
            }
            if (pageBehind == NONE) {
                return NONE;
            }
            first = 0;
            for (int h = 1; h < book.found[pageBehind]; h++) {
                if (rest[h] < rest[first]) {
                    first = h;
                }
            }
            return rest[first];
        }

        private void weigh(HandBook book, int i, int page, int pageBehind) {
            for (int h = 0; h < book.found[page]; h++) {
                int hand = book.rows[page * MOST_HANDS + h];
                int least = 0;
                int leastAt = NONE;
                for (int g = 0; pageBehind != NONE && g < book.found[pageBehind]; g++) {
                    int sum = rest[(i + 1) * MOST_HANDS + g]
                        + Hand.change(hand, book.rows[pageBehind * MOST_HANDS + g]);
                    if (leastAt == NONE || sum < least) {
                        least = sum;
                        leastAt = g;
                    }
                }
                rest[i * MOST_HANDS + h] = Hand.strainOf(hand) + least;
                next[i * MOST_HANDS + h] = leastAt;
            }
        }

        /** Keeps what the latest least sum was found with. */
        void keepAt(int chords, int bar) {
            int h = first;
            for (int i = 0; i < chords && i < MOST_CHORDS && h >= 0 && h < MOST_HANDS; i++) {
                kept[i] = h;
                h = next[i * MOST_HANDS + h];
            }
            keptBar = bar;
        }
    }
}
