/**
 * The boundary cases of the promises, sentence by sentence: the last value that is taken and the first
 * that is refused on each side, the empty and the full, and what wraps around. What a refused call
 * leaves as it is stands in RefusalTest, the names in NameEdgeTest.
 */
public final class EdgeTest {
    private static final int BAD = -1, NO = -2, FULL = -3;
    private static final int LEAST = Integer.MIN_VALUE, MOST = Integer.MAX_VALUE;
    private static final Check CHECK = new Check();

    public static void main(String[] args) {
        newObject();
        feedCounts();
        feedTakesTheLowestBytes();
        feedFull();
        chordEmptiesTheTape();
        chordFull();
        chordNumbers();
        ofWhat();
        stepPlaces();
        stepWhat();
        writeSizes();
        writeBass();
        shownPlaces();
        shownIsTheLatest();
        namedSets();
        namedBasses();
        namedOrder();
        namedSpelling();
        namePlaces();
        normal();
        moveBy();
        moveSpelling();
        moveFull();
        voiceRange();
        voiceRoom();
        voiceCost();
        voiceLikeCosts();
        keyPlaces();
        rest();
        figureKeys();
        figureNumerals();
        figureSmallLetters();
        figureInversions();
        countWhat();
        lastCall();
        CHECK.end();
    }

    private static void due(String what, long got, long want) {
        CHECK.due(what, got, want);
    }

    private static void due(String what, String got, String want) {
        CHECK.due(what, got, want);
    }

    private static LeadSheets with(String... names) {
        LeadSheets x = new LeadSheets();
        for (int i = 0; i < names.length; i++) {
            due("chord() of " + names[i], Check.chord(x, names[i]), i);
        }
        return x;
    }

    /** An object with so many chords, all of them moved from a C. */
    private static LeadSheets withMany(int chords) {
        LeadSheets x = with("C");
        for (int i = 1; i < chords; i++) {
            due("move number " + i, x.move(0, i), i);
        }
        return x;
    }

    private static LeadSheets withTape(int bytes) {
        LeadSheets x = new LeadSheets();
        for (int i = 1; i <= bytes; i++) {
            due("feed number " + i, x.feed(1, 'C'), i);
        }
        return x;
    }

    /** 1: "An empty tape, no chords, no names found, no voicing." */
    private static void newObject() {
        LeadSheets x = new LeadSheets();
        for (int what = 0; what <= 4; what++) {
            due("1: count(" + what + ")", x.count(what), 0);
        }
        due("1: of(0, 0)", x.of(0, 0), BAD);
        due("1: step(0, 0, 0)", x.step(0, 0, 0), BAD);
        due("1: step(0, -1, 2)", x.step(0, -1, 2), BAD);
        due("1: write(0)", x.write(0), BAD);
        due("1: shown(0)", x.shown(0), BAD);
        due("1: name(0)", x.name(0), BAD);
        due("1: normal(0)", x.normal(0), BAD);
        due("1: move(0, 0)", x.move(0, 0), BAD);
        due("1: voice(0, 60, 72)", x.voice(0, 60, 72), BAD);
        due("1: key(0)", x.key(0), BAD);
        due("1: figure(0, 0)", x.figure(0, 0), BAD);
        due("1: rest()", x.rest(), 0);
        due("1: chord() of the empty tape", x.chord(), -10);
    }

    /** 2: "The n (1 .. 8)"; "BAD: n." */
    private static void feedCounts() {
        for (int n = 1; n <= 8; n++) {
            due("2: feed(" + n + ", 0)", new LeadSheets().feed(n, 0), n);
        }
        for (int n : new int[] {0, -1, -8, 9, 10, 40, 256 + 1, LEAST, LEAST + 1, MOST}) {
            LeadSheets x = new LeadSheets();
            due("2: feed(" + n + ", 0)", x.feed(n, 0), BAD);
            due("2: bytes after feed(" + n + ", 0)", x.count(2), 0);
        }
    }

    /** 2: "lowest bytes of a number, the lowest one first, come behind the TAPE" */
    private static void feedTakesTheLowestBytes() {
        String name = "Abm7/Gbb";
        long number = 0;
        for (int i = 7; i >= 0; i--) {
            number = number << 8 | name.charAt(i);
        }
        for (int n : new int[] {1, 2, 3, 4, 6, 7, 8}) {
            LeadSheets x = new LeadSheets();
            due("2: " + n + " bytes", x.feed(n, number), n);
            due("2: the chord of " + n + " bytes", x.chord(), 0);
            due("2: as it is written", Check.written(x, 0), name.substring(0, n));
        }
        LeadSheets x = new LeadSheets();
        due("2: the bytes above n are none of it", x.feed(1, -1L << 8 | 'C'), 1);
        due("2: behind the TAPE", x.feed(2, -1L << 16 | '7' << 8 | 'm'), 3);
        due("2: chord()", x.chord(), 0);
        due("2: Cm7", Check.written(x, 0), "Cm7");
        x.feed(8, 'C');
        due("2: bytes of 0 are bytes", x.chord(), -11);
        x.feed(8, -256L + 'C');
        due("2: the highest byte of a negative number", x.chord(), -11);
        x.feed(8, (long) 'b' << 56 | 'b' << 8 | 'C');
        due("2: the eighth byte is not the second", x.chord(), -12);
    }

    /** 2: "FULL: more than 40." */
    private static void feedFull() {
        for (int n = 1; n <= 8; n++) {
            LeadSheets x = withTape(40 - n);
            due("2: feed(" + n + ", 0) up to 40", x.feed(n, 0), 40);
            due("2: 40 bytes", x.count(2), 40);
            LeadSheets y = withTape(41 - n);
            due("2: feed(" + n + ", 0) up to 41", y.feed(n, 0), FULL);
            due("2: no byte came", y.count(2), 41 - n);
        }
        LeadSheets x = withTape(40);
        due("2: one more", x.feed(1, 0), FULL);
        due("2: eight more", x.feed(8, 0), FULL);
        due("2: BAD goes ahead of FULL", x.feed(0, 0), BAD);
        due("2: BAD goes ahead of FULL", x.feed(9, 0), BAD);
        due("3: 40 bytes are read", x.chord(), -11);
        due("2: there is room again", x.feed(8, 0), 8);
    }

    /** 3: "The TAPE, which is empty then" */
    private static void chordEmptiesTheTape() {
        LeadSheets x = with("C");
        due("3: empty after a chord", x.count(2), 0);
        due("3: empty after a FAULT's text", Check.chord(x, "Gx"), -11);
        due("3: empty after a FAULT", x.count(2), 0);
        due("3: the empty tape is no NAME", x.chord(), -10);
        due("3: a FAULT is no chord", x.count(0), 1);
        due("3: a feed begins anew", x.feed(1, 'G'), 1);
        due("3: nothing is left of earlier texts", x.chord(), 1);
        due("3: a G", Check.written(x, 1), "G");
        due("3: a shorter text behind a longer one", Check.chord(x, "Am7b5/Eb"), 2);
        due("3: is read up to its end", Check.chord(x, "Am"), 3);
        due("3: an Am", Check.written(x, 3), "Am");
        due("3: a text that ends too soon behind a longer one", Check.chord(x, "F#/"), -13);
    }

    /** 3: "FULL: there are 100 (a FAULT goes ahead)." */
    private static void chordFull() {
        LeadSheets x = withMany(99);
        due("3: the 100th", Check.chord(x, "Gm/D"), 99);
        due("3: 100 chords", x.count(0), 100);
        due("3: the 101st", Check.chord(x, "Am"), FULL);
        due("3: the tape is empty, too", x.count(2), 0);
        due("3: a FAULT goes ahead", Check.chord(x, "Amx"), -12);
        due("3: the FAULT of the empty tape, too", x.chord(), -10);
        due("3: still 100 chords", x.count(0), 100);
        due("3: the last one is the 100th", Check.written(x, 99), "Gm/D");
        due("3: there is no 101st", x.write(100), BAD);
    }

    /** "BAD: no chord", in every promise that takes a chord's number. */
    private static void chordNumbers() {
        LeadSheets x = with("C", "Dm");
        due("4: of the last chord", x.of(1, 0), 2);
        due("5: step of the last chord", x.step(1, 0, 4), 2);
        due("6: write of the last chord", x.write(1), 2);
        due("10: normal of the last chord", x.normal(1), 1);
        due("12: voice of the last chord", x.voice(1, 60, 72), 3);
        due("15: figure of the last chord", x.figure(1, 0), 2);
        due("11: move of the last chord", x.move(1, 0), 2);
        for (int none : new int[] {-1, 3, 99, 100, 101, LEAST, MOST}) {
            due("4: of(" + none + ", 0)", x.of(none, 0), BAD);
            due("5: step(" + none + ", 0, 0)", x.step(none, 0, 0), BAD);
            due("5: step(" + none + ", -1, 2)", x.step(none, -1, 2), BAD);
            due("6: write(" + none + ")", x.write(none), BAD);
            due("10: normal(" + none + ")", x.normal(none), BAD);
            due("11: move(" + none + ", 0)", x.move(none, 0), BAD);
            due("12: voice(" + none + ", 60, 72)", x.voice(none, 60, 72), BAD);
            due("15: figure(" + none + ", 0)", x.figure(none, 0), BAD);
        }
        LeadSheets full = withMany(100);
        due("4: of the 100th", full.of(99, 0), 3);
        due("4: of(100, 0)", full.of(100, 0), BAD);
    }

    private static void ofAll(String name, int... want) {
        LeadSheets x = with(name);
        for (int what = 0; what <= 6; what++) {
            due("4: of(0, " + what + ") of " + name, x.of(0, what), want[what]);
        }
    }

    /** 4: "0 its ROOT's pitch .. 6 1 if its BASS stands behind /, else 0. BAD: .. what." */
    private static void ofWhat() {
        ofAll("C", 0, 0, 3, 145, 0, 0, 0);
        ofAll("C/C", 0, 0, 3, 145, 0, 0, 1);
        ofAll("C/Dbb", 0, 0, 3, 145, 2, 0, 1);
        ofAll("B/Cb", 11, 11, 3, 2120, 3, 0, 1);
        ofAll("C/B", 0, 11, 3, 2193, 0, 0, 1);
        ofAll("C5no5", 0, 0, 1, 1, 0, NO, 0);
        ofAll("B5no5", 11, 11, 1, 2048, 0, NO, 0);
        ofAll("C13b9#9add9#11add11b13/B", 0, 11, 10, 4095 - 512, 5, NO, 1);
        ofAll("Cmmaj7", 0, 0, 4, 2185, 1, 19, 0);
        ofAll("C6no5", 0, 0, 3, 529, 0, NO, 0);
        // The same pitches are not the same DEGREES.
        ofAll("Csus2", 0, 0, 3, 133, 0, 10, 0);
        ofAll("Cno3add9", 0, 0, 3, 133, 0, NO, 0);
        ofAll("Cno3add11", 0, 0, 3, 161, 0, NO, 0);
        LeadSheets x = with("C");
        for (int wrong : new int[] {-1, 7, 8, LEAST, MOST}) {
            due("4: of(0, " + wrong + ")", x.of(0, wrong), BAD);
        }
    }

    /** 5: "Of STEP i of a chord"; "BAD: none such" */
    private static void stepPlaces() {
        LeadSheets x = with("C5no5", "C7", "C13b9#9add9#11add11b13");
        int[] sizes = {1, 4, 10};
        int[] last = {0, 10, 20};
        for (int chord = 0; chord < 3; chord++) {
            due("5: the first STEP of chord " + chord, x.step(chord, 0, 0), 0);
            due("5: the last STEP of chord " + chord, x.step(chord, sizes[chord] - 1, 0), last[chord]);
            for (int wrong : new int[] {sizes[chord], sizes[chord] + 1, 31, 32, LEAST, MOST, -2, -3}) {
                for (int what = 0; what <= 4; what++) {
                    due("5: step(" + chord + ", " + wrong + ", " + what + ")", x.step(chord, wrong, what), BAD);
                }
            }
        }
    }

    private static void stepAll(String name, int i, int... want) {
        LeadSheets x = with(name);
        for (int what = -1; what <= 5; what++) {
            int answer = what < 0 || what > 4 ? BAD : want[what];
            due("5: step(0, " + i + ", " + what + ") of " + name, x.step(0, i, what), answer);
        }
    }

    /** 5: "of i -1 2 to 4 of the BASS's NOTE"; "BAD: .. what (its SIGNS may be BAD, too)" */
    private static void stepWhat() {
        stepAll("C", 0, 0, 1, 0, 0, 0);
        stepAll("C", -1, BAD, BAD, 0, 0, 0);
        stepAll("Cb", 0, 0, 1, 0, -1, 11);
        stepAll("Cb", -1, BAD, BAD, 0, -1, 11);
        stepAll("Cm", 1, 3, 3, 2, -1, 3);
        stepAll("C/Bb", -1, BAD, BAD, 6, -1, 10);
        stepAll("C/Bbb", -1, BAD, BAD, 6, -2, 9);
        stepAll("C/B##", -1, BAD, BAD, 6, 2, 1);
        LeadSheets x = with("C/E");
        for (int wrong : new int[] {LEAST, MOST, 8, -2}) {
            due("5: step(0, 0, " + wrong + ")", x.step(0, 0, wrong), BAD);
            due("5: step(0, -1, " + wrong + ")", x.step(0, -1, wrong), BAD);
        }
    }

    private static void written(String name, String want) {
        due("6: " + name + " written", Check.written(with(name), 0), want);
    }

    /** 6: "how many bytes, which are shown": the shortest and the longest texts, and ?. */
    private static void writeSizes() {
        written("C", "C");
        written("Cno3no5", "C?");
        written("C##7sus4/F##", "C##7sus4/F##");
        written("Bbbmmaj7/Abb", "Bbbmmaj7/Abb");
        written("C69", "C?");
        written("Cm69/Eb", "C?/Eb");
        written("C7sus", "C7sus4");
        written("CM7", "Cmaj7");
        written("C-M7", "Cmmaj7");
        written("Cno3", "C5");
        written("C-7b5", "Cm7b5");
        written("Co#5b5", "Cdim");
        written("C7b5#5", "C?");
    }

    /** WRITTEN: "if the BASS's pitch is not the ROOT's, / and the BASS" */
    private static void writeBass() {
        written("C/C", "C");
        written("C/B#", "C");
        written("C/Dbb", "C");
        written("B##/Db", "B##");
        written("C/Cb", "C/Cb");
        written("C/C#", "C/C#");
        written("Cb/C", "Cb/C");
    }

    /** 7: "Byte i of what is shown .. BAD: none such." */
    private static void shownPlaces() {
        LeadSheets x = with("Bbmaj7/D", "C");
        due("7: nothing is shown yet", x.shown(0), BAD);
        due("6: write(0)", x.write(0), 8);
        due("7: the first byte", x.shown(0), 'B');
        due("7: the last byte", x.shown(7), 'D');
        for (int wrong : new int[] {-1, -2, 8, 9, 12, 13, LEAST, MOST}) {
            due("7: shown(" + wrong + ")", x.shown(wrong), BAD);
        }
        due("6: write(1)", x.write(1), 1);
        due("7: the only byte", x.shown(0), 'C');
        due("7: nothing is left of a longer text", x.shown(1), BAD);
        due("7: nor of its end", x.shown(7), BAD);
    }

    /** 7: "(by write(), name(), figure(), the latest one)" */
    private static void shownIsTheLatest() {
        LeadSheets x = with("Dm7");
        x.named(145, 4);
        x.write(0);
        due("7: by write()", Check.shown(x), "Dm7");
        x.name(1);
        due("7: by name()", Check.shown(x), "C5/E");
        x.figure(0, 0);
        due("7: by figure()", Check.shown(x), "ii7");
        x.name(0);
        due("7: by name() again", Check.shown(x), "C/E");
        x.write(0);
        due("7: by write() again", Check.shown(x), "Dm7");
    }

    /** 8: "BAD: set is not 1 .. 4095" */
    private static void namedSets() {
        LeadSheets x = new LeadSheets();
        due("8: the least SET", x.named(1, 0), 0);
        due("8: the greatest SET", x.named(4095, 0), 0);
        due("8: its last pitch", x.named(4095, 11), 0);
        for (int wrong : new int[] {0, -1, -2, 4096, 4097, 8191, LEAST, LEAST + 1, MOST}) {
            due("8: named(" + wrong + ", 0)", x.named(wrong, 0), BAD);
        }
    }

    /** 8: "bass not one of it" */
    private static void namedBasses() {
        LeadSheets x = new LeadSheets();
        due("8: bass 0", x.named(145, 0), 1);
        due("8: bass 11", x.named(2120, 11), 1);
        for (int bass = 0; bass < 12; bass++) {
            boolean isOne = bass == 0 || bass == 4 || bass == 7;
            due("8: named(145, " + bass + ") is BAD", x.named(145, bass) == BAD ? 1 : 0, isOne ? 0 : 1);
        }
        // 32 and -32 are as 0 where only the lowest bits of a shift count.
        for (int wrong : new int[] {-1, 12, 13, 32, 36, -32, LEAST, MOST}) {
            due("8: named(145, " + wrong + ")", x.named(145, wrong), BAD);
            due("8: named(4095, " + wrong + ")", x.named(4095, wrong), BAD);
        }
    }

    private static void names(int set, int bass, String want) {
        LeadSheets x = new LeadSheets();
        due("8: named(" + set + ", " + bass + ")", x.named(set, bass), want.isEmpty() ? 0 : want.split(" ").length);
        due("8: ALL NAMES of " + set + " with " + bass, Check.names(x), want);
    }

    /** ALL NAMES: "the bass first, then up from it, and each BODY"; "these and the bass are" */
    private static void namedOrder() {
        names(1, 0, "");
        names(129, 0, "C5");
        names(129, 7, "C5/G");
        names(145, 4, "C/E C5/E");
        names(1169, 0, "C7 Edim/C");
        names(1169, 10, "C/Bb C7/Bb");
        names(657, 0, "C6 Am7/C");
        names(657, 9, "Am7 C/A C6/A");
        names(661, 2, "Am7/D C6/D");
        names(2193, 11, "C/B Cmaj7/B");
        names(3, 0, "");
    }

    /** SPELT: "-1 .. 1 SIGNS", "the least WEIGHT; of like ones the one with the least SIGNS" */
    private static void namedSpelling() {
        names(290, 1, "Db");
        names(1090, 6, "Gb");
        names(578, 6, "F#m");
        names(1096, 3, "Ebm");
        names(2120, 11, "B");
        names(2116, 11, "Bm");
        // B D# F## and Cb Eb G weigh the same, and -1 is less than 0; the bass is SPELT by body 0.
        names(2184, 11, "Cbaug Ebaug/B Gaug/B");
        names(530, 1, "A/Db A5/Db");
        names(2120, 3, "B/Eb B5/Eb");
        names(580, 6, "D/Gb D5/Gb");
        names(2320, 8, "E/Ab E5/Ab");
        names(1090, 10, "Gb/Bb Gb5/Bb");
        // C Eb Gb Bbb and B# D# F# A weigh the same, and 0 is less than 1.
        names(585, 0, "Cdim7 D#dim/C D#dim7/C F#dim7/C Adim7/C");
    }

    /** 9: "The i-th NAME that was found latest .. BAD: none such." */
    private static void namePlaces() {
        LeadSheets x = new LeadSheets();
        due("9: none were found yet", x.name(0), BAD);
        x.named(657, 9);
        due("9: the first", x.name(0), 3);
        due("9: it is shown", Check.shown(x), "Am7");
        due("9: the last", x.name(2), 4);
        due("9: it is shown", Check.shown(x), "C6/A");
        for (int wrong : new int[] {-1, -2, 3, 4, 239, 240, LEAST, MOST}) {
            due("9: name(" + wrong + ")", x.name(wrong), BAD);
        }
        due("9: a name may be shown again", x.name(0), 3);
        x.named(129, 7);
        due("9: the latest ones alone", x.name(1), BAD);
        due("9: with their own bass", x.name(0), 4);
        due("9: it is shown", Check.shown(x), "C5/G");
        x.named(1, 0);
        due("9: none were found latest", x.name(0), BAD);
        due("16: none are counted", x.count(1), 0);
    }

    private static void isNormal(String name, int want) {
        due("10: normal(0) of " + name, with(name).normal(0), want);
    }

    /** 10: "begin with just how it is WRITTEN: 1, 0" */
    private static void normal() {
        isNormal("C", 1);
        isNormal("Cno3", 1);
        isNormal("C/C", 1);
        isNormal("C/Dbb", 1);
        isNormal("C/E", 1);
        isNormal("C/Fb", 0);
        isNormal("A/Db", 1);
        isNormal("A/C#", 0);
        isNormal("C5/E", 0);
        isNormal("F#", 0);
        isNormal("Gb", 1);
        isNormal("C6", 1);
        isNormal("Am7/C", 0);
        isNormal("Am/D", 1);
        isNormal("Am7/D", 1);
        isNormal("C6/D", 0);
        isNormal("Cbaug", 1);
        isNormal("Baug", 0);
        isNormal("Dbb", 0);
        // There are no names at all.
        isNormal("C5no5", 0);
        isNormal("C13", 0);
        // A name begins them, but the chord has other DEGREES.
        isNormal("Cno3add9", 0);
        isNormal("Cno3add11", 0);
        LeadSheets x = with("C/E");
        due("10: before anything was found", x.normal(0), 1);
        due("10: it is not kept as found", x.count(1), 0);
        x.named(129, 7);
        due("10: normal(0)", x.normal(0), 1);
        due("10: what was found stays", Check.names(x), "C5/G");
    }

    private static void moved(String name, int by, String want) {
        LeadSheets x = with(name);
        due("11: move(0, " + by + ") of " + name, x.move(0, by), 1);
        due("11: " + name + " moved by " + by, Check.written(x, 1), want);
    }

    /** TO MOVE: "up by so many half tones (modulo 12)" */
    private static void moveBy() {
        String[] great = {"C", "Db", "D", "Eb", "E", "F", "Gb", "G", "Ab", "A", "Bb", "B"};
        String[] small = {"Cm", "C#m", "Dm", "Ebm", "Em", "Fm", "F#m", "Gm", "G#m", "Am", "Bbm", "Bm"};
        for (int up = 0; up < 12; up++) {
            for (int by : new int[] {up, up + 12, up - 12, up - 120, up + 1200}) {
                moved("C", by, great[up]);
                moved("Dbbm", by, small[up]);
            }
        }
        moved("C", LEAST, "E");
        moved("C", LEAST + 1, "F");
        moved("C", MOST, "G");
        moved("B", MOST, "Gb");
        moved("B/A", LEAST, "Eb/Db");
        moved("B/D#", MOST, "Gb/Bb");
    }

    /** TO MOVE: "-1 .. 1 SIGNS", "the least WEIGHT; of like ones that whose ROOT .. least SIGNS" */
    private static void moveSpelling() {
        moved("C##", 0, "D");
        moved("Fbb", 0, "Eb");
        moved("C/F#", 0, "C/Gb");
        moved("C/E##", 0, "C/Gb");
        moved("F#/A#", 0, "Gb/Bb");
        moved("Baug", 0, "Cbaug");
        moved("Baug/D#", 0, "Cbaug/Eb");
        moved("B#dim7", 0, "Cdim7");
        moved("A+M7#9#11/E", 0, "A?/E");
        LeadSheets x = with("C/Dbb", "C");
        x.move(0, 0);
        due("11: a BASS behind / stays one", x.of(2, 6), 1);
        due("11: with the least SIGNS of one pitch", x.step(2, -1, 2), 0);
        due("11: its SIGNS", x.step(2, -1, 3), 0);
        x.move(1, 1);
        due("11: no BASS comes", x.of(3, 6), 0);
        due("11: the BASS is the new ROOT", x.step(3, -1, 2), 1);
        due("11: the chord that was moved stays", x.step(0, -1, 3), -2);
    }

    /** 11: "BAD: no chord. FULL." */
    private static void moveFull() {
        LeadSheets x = withMany(99);
        due("11: the 100th", x.move(0, 5), 99);
        due("11: the 101st", x.move(0, 5), FULL);
        due("11: by nothing, too", x.move(0, 0), FULL);
        due("11: BAD goes ahead", x.move(100, 5), BAD);
        due("11: BAD goes ahead", x.move(-1, 5), BAD);
        due("11: 100 chords", x.count(0), 100);
        due("11: the last one", Check.written(x, 99), "F");
    }

    /** 12: "BAD: no chord, keys; high is below low, or more than 36 above it." */
    private static void voiceRange() {
        LeadSheets x = with("C5no5", "G5no5");
        due("12: the lowest key", x.voice(0, 0, 0), 1);
        due("12: key 0", x.key(0), 0);
        due("12: the highest key", x.voice(1, 127, 127), 1);
        due("12: key 127", x.key(0), 127);
        due("12: 36 above the lowest key", x.voice(0, 0, 36), 1);
        due("12: 36 below the highest key", x.voice(1, 91, 127), 1);
        due("12: 35 above", x.voice(0, 60, 95), 1);
        due("12: 36 above", x.voice(0, 60, 96), 1);
        due("12: 37 above", x.voice(0, 60, 97), BAD);
        due("12: 37 above the lowest key", x.voice(0, 0, 37), BAD);
        due("12: 37 below the highest key", x.voice(1, 90, 127), BAD);
        due("12: high is low", x.voice(0, 60, 60), 1);
        due("12: high is below low", x.voice(0, 60, 59), BAD);
        due("12: 36 below low", x.voice(0, 60, 24), BAD);
        due("12: low -1", x.voice(0, -1, 12), BAD);
        due("12: low and high -1", x.voice(0, -1, -1), BAD);
        due("12: low -12", x.voice(0, -12, 0), BAD);
        due("12: high 128", x.voice(1, 115, 128), BAD);
        due("12: low and high 128", x.voice(1, 128, 128), BAD);
        due("12: low 132", x.voice(0, 132, 144), BAD);
        due("12: the least", x.voice(0, LEAST, 0), BAD);
        due("12: the least twice", x.voice(0, LEAST, LEAST), BAD);
        due("12: the greatest", x.voice(0, 0, MOST), BAD);
        due("12: the greatest twice", x.voice(0, MOST, MOST), BAD);
        due("12: a difference beyond int", x.voice(0, MOST, LEAST), BAD);
        due("12: a difference beyond int", x.voice(0, LEAST, MOST), BAD);
        due("12: the latest one is still the last that was taken", x.key(0), 60);
    }

    private static void voiced(String name, int low, int high, String want) {
        LeadSheets x = with(name);
        int size = want.isEmpty() ? NO : want.split(" ").length;
        due("12: voice(0, " + low + ", " + high + ") of " + name, x.voice(0, low, high), size);
        due("12: keys of " + name, Check.keys(x), want);
        due("16: keys of " + name, x.count(4), Math.max(0, size));
    }

    /** A VOICING: "one key for each of its PITCHES, the BASS's the lowest one"; "NO: there is none" */
    private static void voiceRoom() {
        voiced("C", 60, 67, "60 64 67");
        voiced("C", 60, 66, "");
        voiced("C", 61, 67, "");
        voiced("C", 61, 78, "");
        voiced("C", 61, 79, "72 76 79");
        voiced("C", 49, 60, "");
        voiced("C", 120, 127, "120 124 127");
        voiced("C", 120, 126, "");
        voiced("C", 121, 127, "");
        voiced("C", 0, 7, "0 4 7");
        voiced("C", 0, 6, "");
        voiced("C", 1, 7, "");
        voiced("C/G", 55, 64, "55 60 64");
        voiced("C/G", 55, 63, "");
        voiced("C/E", 0, 12, "4 7 12");
        voiced("C/E", 0, 11, "");
        voiced("C/F#", 54, 64, "54 55 60 64");
        // Pitches of two STEPS, or of a STEP and the BASS, have one key.
        voiced("C/C", 0, 36, "0 4 7");
        voiced("C/E", 4, 40, "4 7 12");
        voiced("C11sus4", 0, 36, "0 2 5 7 10");
        voiced("C13b9#9add9#11add11b13/B", 59, 70, "59 60 61 62 63 64 65 66 67 68 70");
        voiced("C13b9#9add9#11add11b13/B", 59, 69, "");
        voiced("C5no5", 1, 11, "");
        voiced("C5no5", 1, 12, "12");
        voiced("C5no5/Db", 0, 36, "1 12");
    }

    /** COST: "highest less lowest key, and for each key how far the nearest key .. is" */
    private static void voiceCost() {
        LeadSheets x = with("C", "F", "C5no5", "B5no5", "Db5no5");
        due("12: without one before", x.voice(0, 36, 72), 3);
        due("12: the lowest", Check.keys(x), "36 40 43");
        due("12: F", x.voice(1, 36, 72), 3);
        due("12: F is near 43 with 41 45 48", Check.keys(x), "41 45 48");
        x.rest();
        x.voice(2, 60, 60);
        due("12: a B below and above", x.voice(3, 48, 84), 1);
        due("12: 59 is nearer than 71", x.key(0), 59);
        x.voice(2, 60, 60);
        due("12: a Db below and above", x.voice(4, 37, 73), 1);
        due("12: 61 is nearer than 49", x.key(0), 61);
        x.voice(2, 36, 36);
        due("12: far from the one before", x.voice(4, 100, 127), 1);
        due("12: the nearer one", x.key(0), 109);
    }

    /** "of like ones that whose keys, from the lowest up, come first" */
    private static void voiceLikeCosts() {
        LeadSheets x = with("C5no5", "F#5no5", "C", "C7#11add11", "C9#11add11");
        x.voice(0, 60, 60);
        due("12: 54 and 66 are as near to 60", x.voice(1, 48, 84), 1);
        due("12: the lower one", x.key(0), 54);
        x.rest();
        due("12: all C's cost the same", x.voice(2, 24, 60), 3);
        due("12: the lowest one", Check.keys(x), "24 28 31");
        x.rest();
        x.voice(2, 60, 67);
        due("12: Bb has no key above 60", x.voice(3, 48, 67), 6);
        due("12: near 60 64 67 but for 48", Check.keys(x), "48 58 64 65 66 67");
        due("12: D is as near to 48 at 50 as to 64 at 62", x.voice(4, 48, 67), 7);
        due("12: the lower D", Check.keys(x), "48 50 58 64 65 66 67");
    }

    /** 13: "Key i of the latest VOICING, from the lowest up; BAD: none such." */
    private static void keyPlaces() {
        LeadSheets x = with("C13b9#9add9#11add11b13/B", "C7/E", "C5no5");
        due("13: none was voiced yet", x.key(0), BAD);
        due("12: eleven keys", x.voice(0, 59, 80), 11);
        due("13: the first", x.key(0), 59);
        due("13: the last", x.key(10), 70);
        for (int wrong : new int[] {-1, -2, 11, 12, 13, LEAST, MOST}) {
            due("13: key(" + wrong + ")", x.key(wrong), BAD);
        }
        due("12: four keys", x.voice(1, 52, 62), 4);
        due("13: the last", x.key(3), 60);
        due("13: nothing is left of a greater one", x.key(4), BAD);
        due("12: NO", x.voice(1, 53, 54), NO);
        due("13: the one before stays", Check.keys(x), "52 55 58 60");
        due("12: one key", x.voice(2, 60, 60), 1);
        due("13: it alone", Check.keys(x), "60");
    }

    /** 14: "There is no voicing before: how many keys it had." */
    private static void rest() {
        LeadSheets x = with("C7", "C5no5");
        due("14: there was none", x.rest(), 0);
        due("14: there still is none", x.rest(), 0);
        x.voice(0, 60, 72);
        due("14: four keys", x.rest(), 4);
        due("14: none is left", x.rest(), 0);
        due("13: no key", x.key(0), BAD);
        due("16: no keys", x.count(4), 0);
        x.voice(1, 60, 60);
        due("12: NO", x.voice(0, 61, 62), NO);
        due("14: after NO the one before", x.rest(), 1);
        x.voice(0, 60, 72);
        x.rest();
        due("12: after a rest", x.voice(1, 36, 72), 1);
        due("12: nothing is near", x.key(0), 36);
    }

    /** 15: "BAD: .. key is not 0 .. 11." */
    private static void figureKeys() {
        LeadSheets x = with("C");
        due("15: key 0", Check.figure(x, 0, 0), "I");
        due("15: key 11", Check.figure(x, 0, 11), "bII");
        due("15: key 1", Check.figure(x, 0, 1), "VII");
        for (int wrong : new int[] {-1, -12, 12, 13, 24, LEAST, MOST}) {
            due("15: figure(0, " + wrong + ")", x.figure(0, wrong), BAD);
        }
    }

    private static void figured(String name, int key, String want) {
        due("15: figure of " + name + " in " + key, Check.figure(with(name), 0, key), want);
    }

    /** "by the ROOT's pitch above that I bII .. VII (0 .. 11)", around; the BASS's figure likewise */
    private static void figureNumerals() {
        String[] great = {"I", "bII", "II", "bIII", "III", "IV", "bV", "V", "bVI", "VI", "bVII", "VII"};
        String[] small = {"i", "bii", "ii", "biii", "iii", "iv", "bv", "v", "bvi", "vi", "bvii", "vii"};
        for (int key = 0; key < 12; key++) {
            figured("B", key, great[11 - key]);
            figured("Bm", key, small[11 - key]);
            figured("C", key, great[(12 - key) % 12]);
            figured("B/C", key, great[11 - key] + "/" + great[(12 - key) % 12]);
            figured("Cm7b5/B", key, small[(12 - key) % 12] + "o7/" + great[11 - key]);
        }
        figured("B#", 0, "I");
        figured("Cb", 0, "VII");
        figured("C/Dbb", 0, "I");
    }

    /** "in small letters .. if it has a STEP of 3 half tones and none of 4"; o; + */
    private static void figureSmallLetters() {
        figured("Cm", 0, "i");
        figured("C5", 0, "I");
        figured("Cmno3", 0, "I");
        figured("Cmsus4", 0, "I");
        // 15 half tones are not 3, 18 not 6, 20 not 8.
        figured("C7#9no3", 0, "I7");
        figured("Cm#11no5", 0, "i");
        figured("Cb13no5", 11, "I7");
        figured("Cb13", 11, "I7");
        figured("C7b13no5", 0, "I7");
        figured("Cdim", 0, "io");
        figured("Cm7b5", 0, "io7");
        figured("Cdimno5", 0, "i");
        figured("Cdimno3", 0, "I");
        figured("C7b5", 0, "I7");
        figured("Cdim#5", 0, "i");
        figured("Caug", 0, "I+");
        figured("C7#5", 0, "I+7");
        figured("Caugno3", 0, "I");
        figured("Caugno5", 0, "I");
        figured("Cm7#5", 0, "i7");
        figured("Csus#5", 0, "I");
    }

    /** "by the DEGREE of the first STEP with the BASS's pitch (1, 3, 5, 7)" and all the others */
    private static void figureInversions() {
        figured("C7", 0, "I7");
        figured("C7/E", 0, "I65");
        figured("C7/Fb", 0, "I65");
        figured("C7/G", 0, "I43");
        figured("C7/Bb", 0, "I42");
        figured("Cmaj7/B", 0, "I42");
        figured("Cdim7/A", 0, "io42");
        figured("C/C", 0, "I");
        figured("C/E", 0, "I6");
        figured("C/G", 0, "I64");
        figured("Caug/G#", 0, "I+64");
        figured("Cdim/Gb", 0, "io64");
        // A STEP of another DEGREE, and none at all.
        figured("C6/A", 0, "I/VI");
        figured("Csus2/D", 0, "I/II");
        figured("Csus4/F", 0, "I/IV");
        figured("C9/D", 0, "I7/II");
        figured("C11/F", 0, "I7/IV");
        figured("C13/A", 0, "I7/VI");
        figured("C/F#", 0, "I/bV");
        figured("C/Bb", 0, "I/bVII");
        figured("C7/B", 0, "I7/VII");
        figured("C7no3/E", 0, "I7/III");
        figured("Cno5/G", 0, "I/V");
        // The first of two STEPS with one pitch tells.
        figured("Cm7#9/Eb", 0, "i65");
        figured("C7#9/Eb", 0, "I7/bIII");
        figured("C7b5#11/Gb", 0, "I43");
        figured("C7#5b13/G#", 0, "I+43");
        figured("Cdim13/A", 0, "io42");
        figured("C9sus2/D", 0, "I7/II");
    }

    /** 16: "BAD: another what." */
    private static void countWhat() {
        LeadSheets x = with("C7", "F", "G");
        x.named(657, 0);
        x.named(145, 4);
        Check.feed(x, "Abcde");
        x.write(0);
        x.voice(0, 60, 72);
        int[] want = {3, 2, 5, 2, 4};
        for (int what = 0; what <= 4; what++) {
            due("16: count(" + what + ")", x.count(what), want[what]);
        }
        for (int wrong : new int[] {-1, -2, 5, 6, LEAST, MOST}) {
            due("16: count(" + wrong + ")", x.count(wrong), BAD);
        }
    }

    /** "An object is used for at most 512 calls": the last one is as good as the first. */
    private static void lastCall() {
        LeadSheets x = new LeadSheets();
        int calls = 0;
        for (int chord = 0; chord < 100; chord++) {
            due("2: feed", x.feed(3, 'A' | 'm' << 8 | '7' << 16), 3);
            due("3: chord()", x.chord(), chord);
            due("12: voice", x.voice(chord, 40, 76), 4);
            due("8: named", x.named(657, 9), 3);
            due("9: name", x.name(chord % 3), chord % 3 == 2 ? 4 : 3);
            calls += 5;
        }
        for (; calls < 511; calls++) {
            due("15: figure", x.figure(99, 9), 2);
        }
        due("11: the 512th call", x.move(99, 1), FULL);
    }
}
