/**
 * Lead sheets: names of chords become notes, sets of pitches become names; chords are moved, voiced
 * and told as figures of a key. The words in capitals are those of the document's Terms.
 */
public final class LeadSheets {
    public static final int BAD = -1, NO = -2, FULL = -3;

    private static final int NONE = -1;
    private static final int PITCHES = 12;
    private static final int CHORD_LIMIT = 100;
    private static final int HIGHEST_KEY = 127;
    private static final int WIDEST_RANGE = 36;
    private static final int WHOLE_SET = 4095;
    private static final int FAULT_BASE = -10;

    private static final String FIGURES = "I bII II bIII III IV bV V bVI VI bVII VII";
    private static final String SEVENTH_INVERSIONS = "7 65 43 42";
    /** The first word is the empty one. */
    private static final String TRIAD_INVERSIONS = " 6 64";

    private final Tape tape = new Tape();
    private final Chord[] chords = new Chord[CHORD_LIMIT];
    private final Names names = new Names();
    private final Voicing voicing = new Voicing();
    private final Text text = new Text();
    private int chordCount;

    public LeadSheets() {
    }

    public int feed(int n, long bytes) {
        return tape.add(n, bytes);
    }

    public int chord() {
        Chord read = tape.read();
        int fault = tape.place;
        tape.clear();
        if (read == null) {
            return FAULT_BASE - fault;
        }
        return keep(read);
    }

    public int of(int chord, int what) {
        Chord asked = chordAt(chord);
        if (asked == null) {
            return BAD;
        }
        switch (what) {
            case 0:
                return Notes.pitch(asked.root);
            case 1:
                return Notes.pitch(asked.bass);
            case 2:
                return Integer.bitCount(asked.steps);
            case 3:
                return asked.pitches();
            case 4:
                return Steps.weight(asked.root, asked.steps, asked.bass);
            case 5:
                return asked.body() == Bodies.UNKNOWN ? NO : asked.body();
            case 6:
                return asked.slashed ? 1 : 0;
            default:
                return BAD;
        }
    }

    public int step(int chord, int i, int what) {
        Chord asked = chordAt(chord);
        if (asked == null) {
            return BAD;
        }
        if (i == -1) {
            return bassPart(asked.bass, what);
        }
        int place = Steps.nth(asked.steps, i);
        return place == NONE ? BAD : stepPart(asked.root, place, what);
    }

    public int write(int chord) {
        Chord asked = chordAt(chord);
        if (asked == null) {
            return BAD;
        }
        return show(asked.root, asked.body(), asked.bass);
    }

    public int shown(int i) {
        return text.byteAt(i);
    }

    public int named(int set, int bass) {
        if (set < 1 || set > WHOLE_SET || !isPitch(bass) || ((set >> bass) & 1) == 0) {
            return BAD;
        }
        return names.find(set, bass);
    }

    public int name(int i) {
        int place = names.placeOf(i);
        if (place == NONE) {
            return BAD;
        }
        int bass = names.foundBass;
        return show(Names.rootOf(bass, place), Names.bodyOf(place), Names.bassNote(bass));
    }

    public int normal(int chord) {
        Chord asked = chordAt(chord);
        if (asked == null) {
            return BAD;
        }
        int bass = Notes.pitch(asked.bass);
        int place = names.first(asked.pitches(), bass);
        if (place == NONE || Names.bodyOf(place) != asked.body() || Names.rootOf(bass, place) != asked.root) {
            return 0;
        }
        // A BASS on the ROOT's pitch is not WRITTEN, so its spelling does not matter.
        return bass == Notes.pitch(asked.root) || Names.bassNote(bass) == asked.bass ? 1 : 0;
    }

    public int move(int chord, int by) {
        Chord asked = chordAt(chord);
        if (asked == null) {
            return BAD;
        }
        if (chordCount >= CHORD_LIMIT) {
            return FULL;
        }
        return keep(asked.movedBy(Math.floorMod(by, PITCHES)));
    }

    public int voice(int chord, int low, int high) {
        Chord asked = chordAt(chord);
        if (asked == null || !isKey(low) || !isKey(high) || high < low || high - low > WIDEST_RANGE) {
            return BAD;
        }
        return voicing.find(asked.pitches(), Notes.pitch(asked.bass), low, high) ? voicing.size : NO;
    }

    public int key(int i) {
        return voicing.keyAt(i);
    }

    public int rest() {
        return voicing.drop();
    }

    public int figure(int chord, int key) {
        Chord asked = chordAt(chord);
        if (asked == null || !isPitch(key)) {
            return BAD;
        }
        text.clear();
        // No chord has two STEPS of DEGREE 3 or of DEGREE 5, so one that is there rules out the others.
        boolean small = asked.has(Steps.MINOR_THIRD);
        addNumeral(Notes.pitch(asked.root) - key, small);
        if (small && asked.has(Steps.FLAT_FIFTH)) {
            text.add('o');
        }
        if (asked.has(Steps.MAJOR_THIRD) && asked.has(Steps.SHARP_FIFTH)) {
            text.add('+');
        }
        addInversion(asked, key);
        return text.size;
    }

    public int count(int what) {
        switch (what) {
            case 0:
                return chordCount;
            case 1:
                return names.size;
            case 2:
                return tape.length;
            case 3:
                return text.size;
            case 4:
                return voicing.size;
            default:
                return BAD;
        }
    }

    /** What stands in a row; 0 beyond its ends. */
    private static int entry(int[] row, int i) {
        return i >= 0 && i < row.length ? row[i] : 0;
    }

    private static boolean isPitch(int number) {
        return number >= 0 && number < PITCHES;
    }

    private static boolean isKey(int number) {
        return number >= 0 && number <= HIGHEST_KEY;
    }

    private Chord chordAt(int number) {
        return number >= 0 && number < chordCount ? chords[number] : null;
    }

    private int keep(Chord made) {
        if (chordCount >= CHORD_LIMIT) {
            return FULL;
        }
        chords[chordCount] = made;
        chordCount++;
        return chordCount - 1;
    }

    private static int bassPart(int bass, int what) {
        switch (what) {
            case 2:
                return Notes.letter(bass);
            case 3:
                return Notes.signs(bass);
            case 4:
                return Notes.pitch(bass);
            default:
                return BAD;
        }
    }

    private static int stepPart(int root, int place, int what) {
        switch (what) {
            case 0:
                return Steps.halfTones(place);
            case 1:
                return Steps.degree(place);
            case 2:
                return Steps.letter(root, place);
            case 3:
                return Steps.signs(root, place);
            case 4:
                return Steps.pitch(root, place);
            default:
                return BAD;
        }
    }

    private int show(int root, int body, int bass) {
        text.clear();
        text.addNote(root);
        text.addWord(Bodies.TEXTS, body, false);
        if (Notes.pitch(bass) != Notes.pitch(root)) {
            text.add('/');
            text.addNote(bass);
        }
        return text.size;
    }

    private void addNumeral(int above, boolean small) {
        text.addWord(FIGURES, Math.floorMod(above, PITCHES), small);
    }

    private void addInversion(Chord asked, int key) {
        boolean seventh = asked.has(Steps.DEGREE_7);
        int degree = asked.degreeOfBass();
        if (degree == 1 || degree == 3 || degree == 5 || degree == 7) {
            text.addWord(seventh ? SEVENTH_INVERSIONS : TRIAD_INVERSIONS, degree / 2, false);
            return;
        }
        if (seventh) {
            text.add('7');
        }
        text.add('/');
        addNumeral(Notes.pitch(asked.bass) - key, false);
    }

    /** A NOTE with -2 .. 2 SIGNS is held in one number: five times its letter, and its SIGNS and 2. */
    private static final class Notes {
        static final int LETTERS = 7;
        private static final int[] LETTER_PITCHES = {0, 2, 4, 5, 7, 9, 11};

        static int note(int letter, int signs) {
            return letter * 5 + signs + 2;
        }

        static int letter(int note) {
            return note / 5;
        }

        static int signs(int note) {
            return note % 5 - 2;
        }

        static int pitch(int note) {
            return Math.floorMod(letterPitch(letter(note)) + signs(note), PITCHES);
        }

        static int letterPitch(int letter) {
            return entry(LETTER_PITCHES, letter);
        }

        /** The NOTE with a pitch and so many SIGNS; NONE, if no letter has the pitch without them. */
        static int withSigns(int pitch, int signs) {
            int plain = Math.floorMod(pitch - signs, PITCHES);
            for (int letter = 0; letter < LETTERS; letter++) {
                if (letterPitch(letter) == plain) {
                    return note(letter, signs);
                }
            }
            return NONE;
        }

        /** SPELT: signs are tried from the least up, so that the first of like ones stays. */
        static int spelt(int pitch, int steps) {
            int best = NONE;
            int bestWeight = 0;
            for (int signs = -1; signs <= 1; signs++) {
                int root = withSigns(pitch, signs);
                if (root == NONE) {
                    continue;
                }
                int weight = Steps.weight(root, steps, root);
                if (best == NONE || weight < bestWeight) {
                    best = root;
                    bestWeight = weight;
                }
            }
            return best;
        }
    }

    /**
     * The STEPS of a chord are held in one number, a bit for each STEP that a name can bring; the
     * bits are in the order of STEPS, by half tones and then by DEGREE.
     */
    private static final class Steps {
        static final int FIRST = 1;
        static final int SECOND = 1 << 1;
        static final int MINOR_THIRD = 1 << 2;
        static final int MAJOR_THIRD = 1 << 3;
        static final int FOURTH = 1 << 4;
        static final int FLAT_FIFTH = 1 << 5;
        static final int FIFTH = 1 << 6;
        static final int SHARP_FIFTH = 1 << 7;
        static final int SIXTH = 1 << 8;
        static final int LOW_SEVENTH = 1 << 9;
        static final int SEVENTH = 1 << 10;
        static final int MAJOR_SEVENTH = 1 << 11;
        static final int FLAT_NINTH = 1 << 12;
        static final int NINTH = 1 << 13;
        static final int SHARP_NINTH = 1 << 14;
        static final int ELEVENTH = 1 << 15;
        static final int SHARP_ELEVENTH = 1 << 16;
        static final int FLAT_THIRTEENTH = 1 << 17;
        static final int THIRTEENTH = 1 << 18;

        static final int DEGREE_3 = MINOR_THIRD | MAJOR_THIRD;
        static final int DEGREE_5 = FLAT_FIFTH | FIFTH | SHARP_FIFTH;
        static final int DEGREE_7 = LOW_SEVENTH | SEVENTH | MAJOR_SEVENTH;

        private static final int PLACES = 19;
        private static final int[] HALF_TONES = {
            0, 2, 3, 4, 5, 6, 7, 8, 9, 9, 10, 11, 13, 14, 15, 17, 18, 20, 21};
        private static final int[] DEGREES = {
            1, 2, 3, 3, 4, 5, 5, 5, 6, 7, 7, 7, 9, 9, 9, 11, 11, 13, 13};

        static boolean isIn(int steps, int place) {
            return ((steps >> place) & 1) != 0;
        }

        /** The place of the i-th STEP; NONE, if there is none such. */
        static int nth(int steps, int i) {
            int before = 0;
            for (int place = 0; place < PLACES; place++) {
                if (isIn(steps, place)) {
                    if (before == i) {
                        return place;
                    }
                    before++;
                }
            }
            return NONE;
        }

        static int halfTones(int place) {
            return entry(HALF_TONES, place);
        }

        static int degree(int place) {
            return entry(DEGREES, place);
        }

        static int letter(int root, int place) {
            return letterAbove(Notes.letter(root), place);
        }

        static int pitch(int root, int place) {
            return (Notes.pitch(root) + halfTones(place)) % PITCHES;
        }

        static int signs(int root, int place) {
            return signsAbove(Notes.letter(root), Notes.pitch(root), place);
        }

        private static int letterAbove(int rootLetter, int place) {
            return (rootLetter + degree(place) - 1) % Notes.LETTERS;
        }

        /** The SIGNS, -6 .. 5, that the letter of a STEP needs. */
        private static int signsAbove(int rootLetter, int rootPitch, int place) {
            int plain = Notes.letterPitch(letterAbove(rootLetter, place));
            return Math.floorMod(rootPitch + halfTones(place) - plain + 6, PITCHES) - 6;
        }

        /** The SET of the pitches of STEPS above a root's pitch. */
        static int set(int rootPitch, int steps) {
            int set = 0;
            for (int place = 0; place < PLACES; place++) {
                if (isIn(steps, place)) {
                    set |= 1 << ((rootPitch + halfTones(place)) % PITCHES);
                }
            }
            return set;
        }

        /** WEIGHT: a BASS that is the ROOT counts once more, since the document counts every BASS. */
        static int weight(int root, int steps, int bass) {
            int rootLetter = Notes.letter(root);
            int rootPitch = Notes.pitch(root);
            int weight = Math.abs(Notes.signs(bass));
            for (int place = 0; place < PLACES; place++) {
                if (isIn(steps, place)) {
                    weight += Math.abs(signsAbove(rootLetter, rootPitch, place));
                }
            }
            return weight;
        }
    }

    /** The BODIES, by numbers. */
    private static final class Bodies {
        static final int SIZE = 20;
        /** The number of the ? that stands for no BODY. */
        static final int UNKNOWN = 20;
        /** The first word is the empty one. */
        static final String TEXTS =
            " m 7 maj7 m7 dim dim7 m7b5 aug sus4 sus2 6 m6 9 maj9 m9 add9 5 7sus4 mmaj7 ?";

        private static final int MAJOR = Steps.FIRST | Steps.MAJOR_THIRD | Steps.FIFTH;
        private static final int MINOR = Steps.FIRST | Steps.MINOR_THIRD | Steps.FIFTH;
        private static final int DIM = Steps.FIRST | Steps.MINOR_THIRD | Steps.FLAT_FIFTH;
        private static final int AUG = Steps.FIRST | Steps.MAJOR_THIRD | Steps.SHARP_FIFTH;
        private static final int POWER = Steps.FIRST | Steps.FIFTH;
        private static final int[] STEPS = {
            MAJOR,
            MINOR,
            MAJOR | Steps.SEVENTH,
            MAJOR | Steps.MAJOR_SEVENTH,
            MINOR | Steps.SEVENTH,
            DIM,
            DIM | Steps.LOW_SEVENTH,
            DIM | Steps.SEVENTH,
            AUG,
            POWER | Steps.FOURTH,
            POWER | Steps.SECOND,
            MAJOR | Steps.SIXTH,
            MINOR | Steps.SIXTH,
            MAJOR | Steps.SEVENTH | Steps.NINTH,
            MAJOR | Steps.MAJOR_SEVENTH | Steps.NINTH,
            MINOR | Steps.SEVENTH | Steps.NINTH,
            MAJOR | Steps.NINTH,
            POWER,
            POWER | Steps.FOURTH | Steps.SEVENTH,
            MINOR | Steps.MAJOR_SEVENTH,
        };

        static int steps(int body) {
            return entry(STEPS, body);
        }

        static int withSteps(int steps) {
            for (int body = 0; body < SIZE; body++) {
                if (entry(STEPS, body) == steps) {
                    return body;
                }
            }
            return UNKNOWN;
        }
    }

    private static final class Chord {
        final int root;
        final int steps;
        final int bass;
        final boolean slashed;

        Chord(int root, int steps, int bass, boolean slashed) {
            this.root = root;
            this.steps = steps;
            this.bass = bass;
            this.slashed = slashed;
        }

        boolean has(int anyOf) {
            return (steps & anyOf) != 0;
        }

        int body() {
            return Bodies.withSteps(steps);
        }

        int pitches() {
            return Steps.set(Notes.pitch(root), steps) | (1 << Notes.pitch(bass));
        }

        /** The DEGREE of the first STEP with the BASS's pitch; 0, if there is none. */
        int degreeOfBass() {
            for (int place = 0; place < Steps.PLACES; place++) {
                if (Steps.isIn(steps, place) && Steps.pitch(root, place) == Notes.pitch(bass)) {
                    return Steps.degree(place);
                }
            }
            return 0;
        }

        /** TO MOVE: signs are tried from the least up, so that the first of like pairs stays. */
        Chord movedBy(int up) {
            int rootPitch = (Notes.pitch(root) + up) % PITCHES;
            int bassPitch = (Notes.pitch(bass) + up) % PITCHES;
            if (!slashed) {
                int moved = Notes.spelt(rootPitch, steps);
                return new Chord(moved, steps, moved, false);
            }
            int bestRoot = NONE;
            int bestBass = NONE;
            int bestWeight = 0;
            for (int pair = 0; pair < 9; pair++) {
                int tryRoot = Notes.withSigns(rootPitch, pair / 3 - 1);
                int tryBass = Notes.withSigns(bassPitch, pair % 3 - 1);
                if (tryRoot == NONE || tryBass == NONE) {
                    continue;
                }
                int weight = Steps.weight(tryRoot, steps, tryBass);
                if (bestRoot == NONE || weight < bestWeight) {
                    bestRoot = tryRoot;
                    bestBass = tryBass;
                    bestWeight = weight;
                }
            }
            return new Chord(bestRoot, steps, bestBass, true);
        }
    }

    /** The TAPE, and the reading of it as a NAME. Rows of words are parted by single blanks. */
    private static final class Tape {
        private static final String KINDS = "m - dim o aug + 5";
        private static final int KIND_M = 0;
        private static final int KIND_DIM = 2;
        private static final int KIND_O = 3;
        private static final int KIND_5 = 6;
        private static final int[] KIND_STEPS = {
            Bodies.MINOR, Bodies.MINOR, Bodies.DIM, Bodies.DIM, Bodies.AUG, Bodies.AUG, Bodies.POWER};

        private static final String SIZES = "6 69 7 maj7 M7 9 maj9 M9 11 maj11 M11 13 maj13 M13";
        private static final int TO_11 = Steps.NINTH | Steps.ELEVENTH;
        private static final int TO_13 = TO_11 | Steps.THIRTEENTH;
        private static final int[] SIZE_STEPS = {
            Steps.SIXTH,
            Steps.SIXTH | Steps.NINTH,
            Steps.SEVENTH,
            Steps.MAJOR_SEVENTH,
            Steps.MAJOR_SEVENTH,
            Steps.SEVENTH | Steps.NINTH,
            Steps.MAJOR_SEVENTH | Steps.NINTH,
            Steps.MAJOR_SEVENTH | Steps.NINTH,
            Steps.SEVENTH | TO_11,
            Steps.MAJOR_SEVENTH | TO_11,
            Steps.MAJOR_SEVENTH | TO_11,
            Steps.SEVENTH | TO_13,
            Steps.MAJOR_SEVENTH | TO_13,
            Steps.MAJOR_SEVENTH | TO_13,
        };

        private static final String CHANGES =
            "sus2 sus4 sus b5 #5 b9 #9 #11 b13 add9 add11 no3 no5";
        /** By CHANGE: one of these has to be there (0: nothing has to). */
        private static final int[] NEEDED = {
            Steps.DEGREE_3, Steps.DEGREE_3, Steps.DEGREE_3, Steps.DEGREE_5, Steps.DEGREE_5,
            0, 0, 0, 0, 0, 0, Steps.DEGREE_3, Steps.DEGREE_5};
        /** By CHANGE: these go, if they are there. */
        private static final int[] TAKEN = {
            Steps.DEGREE_3, Steps.DEGREE_3, Steps.DEGREE_3, Steps.DEGREE_5, Steps.DEGREE_5,
            Steps.NINTH, Steps.NINTH, Steps.ELEVENTH, Steps.THIRTEENTH, 0, 0,
            Steps.DEGREE_3, Steps.DEGREE_5};
        /** By CHANGE: this comes, and must not be there before. */
        private static final int[] BROUGHT = {
            Steps.SECOND, Steps.FOURTH, Steps.FOURTH, Steps.FLAT_FIFTH, Steps.SHARP_FIFTH,
            Steps.FLAT_NINTH, Steps.SHARP_NINTH, Steps.SHARP_ELEVENTH, Steps.FLAT_THIRTEENTH,
            Steps.NINTH, Steps.ELEVENTH, 0, 0};

        private final int[] bytes = new int[40];
        private int length;
        /** Where the reading is. */
        private int place;
        /** What the parts that were read made. */
        private int steps;

        /** What feed answers: a refused number leaves the tape as it is. */
        int add(int n, long number) {
            if (n < 1 || n > 8) {
                return BAD;
            }
            if (length + n > bytes.length) {
                return FULL;
            }
            for (int i = 0; i < n; i++) {
                bytes[length + i] = (int) (number >>> (8 * i)) & 255;
            }
            length += n;
            return length;
        }

        void clear() {
            length = 0;
        }

        /** The chord of the NAME on the tape; null, if it has a FAULT, which is the place then. */
        Chord read() {
            place = 0;
            int root = readNote();
            if (root == NONE) {
                return null;
            }
            steps = readKindAndSize();
            if (!readChanges()) {
                return null;
            }
            if (place == length) {
                return new Chord(root, steps, root, false);
            }
            if (byteAt(place) != '/') {
                return null;
            }
            place++;
            int bass = readNote();
            return bass == NONE || place < length ? null : new Chord(root, steps, bass, true);
        }

        private int readNote() {
            int letter = byteAt(place);
            if (letter < 'A' || letter > 'G') {
                return NONE;
            }
            place++;
            int signs = readLongest(Text.SIGNS);
            return Notes.note((letter - 'A' + 5) % Notes.LETTERS, signs == NONE ? 0 : signs - 2);
        }

        private int readKindAndSize() {
            int kind = readKind();
            int kindSteps = kind == NONE ? Bodies.MAJOR : entry(KIND_STEPS, kind);
            if (kind == KIND_5) {
                return kindSteps;
            }
            int sizeSteps = entry(SIZE_STEPS, readLongest(SIZES));
            boolean lowers = kind == KIND_DIM || kind == KIND_O;
            if (lowers && (sizeSteps & Steps.SEVENTH) != 0) {
                sizeSteps ^= Steps.SEVENTH | Steps.LOW_SEVENTH;
            }
            return kindSteps | sizeSteps;
        }

        private int readKind() {
            int start = place;
            int kind = readLongest(KINDS);
            if (kind == KIND_M && byteAt(place) == 'a' && byteAt(place + 1) == 'j') {
                place = start;
                return NONE;
            }
            return kind;
        }

        /** Whether no CHANGE is WRONG; the place is then behind the last one, else at the WRONG one. */
        private boolean readChanges() {
            for (int read = 0; read < bytes.length; read++) {
                int start = place;
                int change = readLongest(CHANGES);
                if (change == NONE) {
                    return true;
                }
                if (isWrong(change)) {
                    place = start;
                    return false;
                }
                steps = (steps & ~entry(TAKEN, change)) | entry(BROUGHT, change);
            }
            return true;
        }

        private boolean isWrong(int change) {
            int needed = entry(NEEDED, change);
            boolean misses = needed != 0 && (steps & needed) == 0;
            return misses || (steps & entry(BROUGHT, change)) != 0;
        }

        /** Goes behind the longest word of a row that stands here: its number in the row, or NONE. */
        private int readLongest(String row) {
            int best = NONE;
            int bestSize = 0;
            int word = 0;
            int start = 0;
            for (int i = 0; i <= row.length(); i++) {
                if (i < row.length() && row.charAt(i) != ' ') {
                    continue;
                }
                if (i - start > bestSize && stands(row, start, i)) {
                    best = word;
                    bestSize = i - start;
                }
                word++;
                start = i + 1;
            }
            place += bestSize;
            return best;
        }

        private boolean stands(String row, int start, int end) {
            for (int i = start; i < end; i++) {
                if (byteAt(place + i - start) != row.charAt(i)) {
                    return false;
                }
            }
            return true;
        }

        private int byteAt(int i) {
            return i >= 0 && i < length && i < bytes.length ? bytes[i] : NONE;
        }
    }

    /** What is shown. */
    private static final class Text {
        /** By SIGNS and 2; the word in the middle is the empty one. */
        static final String SIGNS = "bb b  # ##";
        private static final String LETTERS = "C D E F G A B";

        /** The longest texts have 12 bytes, as C##7sus4/F## has. */
        private final int[] bytes = new int[12];
        private int size;

        void clear() {
            size = 0;
        }

        int byteAt(int i) {
            return i >= 0 && i < size && i < bytes.length ? bytes[i] : BAD;
        }

        void add(char c) {
            if (size < bytes.length) {
                bytes[size] = c;
                size++;
            }
        }

        void addNote(int note) {
            addWord(LETTERS, Notes.letter(note), false);
            addWord(SIGNS, Notes.signs(note) + 2, false);
        }

        /** Adds a word of a row, in small letters if so asked; a b is small already. */
        void addWord(String row, int number, boolean small) {
            int word = 0;
            for (int i = 0; i < row.length(); i++) {
                char c = row.charAt(i);
                if (c == ' ') {
                    word++;
                } else if (word == number) {
                    add(small && c != 'b' ? (char) (c - 'A' + 'a') : c);
                }
            }
        }
    }

    /**
     * ALL NAMES of a SET with a bass. A name is told by its place among all roots, from the bass up,
     * and all BODIES on each of them.
     */
    private static final class Names {
        private static final int PLACES = PITCHES * Bodies.SIZE;

        private final int[] bodySets = new int[Bodies.SIZE];
        private final int[] found = new int[PLACES];
        private int size;
        /** The bass of the names that were found latest. */
        private int foundBass;

        Names() {
            for (int body = 0; body < Bodies.SIZE; body++) {
                bodySets[body] = Steps.set(0, Bodies.steps(body));
            }
        }

        static int bodyOf(int place) {
            return place % Bodies.SIZE;
        }

        static int rootOf(int bass, int place) {
            return Notes.spelt((bass + place / Bodies.SIZE) % PITCHES, Bodies.steps(bodyOf(place)));
        }

        static int bassNote(int bass) {
            return Notes.spelt(bass, Bodies.steps(0));
        }

        /** Finds and keeps ALL NAMES: how many. */
        int find(int set, int bass) {
            foundBass = bass;
            size = 0;
            for (int place = 0; place < PLACES; place++) {
                if (means(place, set, bass) && size < found.length) {
                    found[size] = place;
                    size++;
                }
            }
            return size;
        }

        /** The place of the first of ALL NAMES, which is not kept; NONE, if there are none. */
        int first(int set, int bass) {
            for (int place = 0; place < PLACES; place++) {
                if (means(place, set, bass)) {
                    return place;
                }
            }
            return NONE;
        }

        /** The place of the i-th name that was found; NONE, if there is none such. */
        int placeOf(int i) {
            return i >= 0 && i < size && i < found.length ? found[i] : NONE;
        }

        /** The bass is one of the SET, so a body that has it already is not changed by it. */
        private boolean means(int place, int set, int bass) {
            int root = (bass + place / Bodies.SIZE) % PITCHES;
            int turned = entry(bodySets, bodyOf(place)) << root;
            int pitches = (turned | (turned >> PITCHES)) & WHOLE_SET;
            return (pitches | (1 << bass)) == set;
        }
    }

    /** The latest VOICING, and the search for the next one. */
    private static final class Voicing {
        private final int[] keys = new int[PITCHES];
        private int size;

        /** By key: how far the nearest key of the voicing before is. */
        private final int[] away = new int[HIGHEST_KEY + 1];
        /** By pitch: the key that it has in the voicing which is tried. */
        private final int[] chosen = new int[PITCHES];
        /** The best voicing so far, a bit for each key from the low end of the range; 0: none. */
        private long best;
        private int bestCost;

        int keyAt(int i) {
            return i >= 0 && i < size && i < keys.length ? keys[i] : BAD;
        }

        int drop() {
            int had = size;
            size = 0;
            return had;
        }

        /** Whether there is a VOICING of a SET, which is the latest one then. */
        boolean find(int set, int bass, int low, int high) {
            for (int at = low; at <= high; at++) {
                away[at] = nearest(at);
            }
            best = 0;
            for (int lowest = low; lowest <= high; lowest++) {
                if (lowest % PITCHES == bass) {
                    climb(set, lowest, low, high);
                }
            }
            if (best == 0) {
                return false;
            }
            take(low, high);
            return true;
        }

        private int nearest(int to) {
            int least = size == 0 ? 0 : HIGHEST_KEY;
            for (int i = 0; i < size; i++) {
                least = Math.min(least, Math.abs(to - entry(keys, i)));
            }
            return least;
        }

        /**
         * Offers the best voicing above a lowest key for each highest one. Up to a highest key the
         * pitches do not hinder one another: each takes its nearest key, and of like ones the
         * lowest, which comes first.
         */
        private void climb(int set, int lowest, int low, int high) {
            int missing = set;
            int far = 0;
            long taken = 0;
            for (int at = lowest; at <= high; at++) {
                int pitch = at % PITCHES;
                int bit = 1 << pitch;
                boolean again = at > lowest && pitch == lowest % PITCHES;
                if (again || (set & bit) == 0) {
                    continue;
                }
                if ((missing & bit) == 0) {
                    int before = entry(chosen, pitch);
                    if (entry(away, at) >= entry(away, before)) {
                        continue;
                    }
                    far -= entry(away, before);
                    taken ^= 1L << (before - low);
                }
                missing &= ~bit;
                chosen[pitch] = at;
                far += entry(away, at);
                taken |= 1L << (at - low);
                if (missing == 0) {
                    offer(taken, at - lowest + far);
                }
            }
        }

        /**
         * Of like costs the first one stays: the later ones have a higher lowest key or, above the
         * same one, no pitch at a lower key and some at higher ones.
         */
        private void offer(long taken, int cost) {
            if (best == 0 || cost < bestCost) {
                best = taken;
                bestCost = cost;
            }
        }

        private void take(int low, int high) {
            size = 0;
            for (int at = low; at <= high; at++) {
                if (((best >> (at - low)) & 1) != 0 && size < keys.length) {
                    keys[size] = at;
                    size++;
                }
            }
        }
    }
}
