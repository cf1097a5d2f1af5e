/** Promise by promise: ordinary inputs, the edges that the document names, and wrong inputs. */
public final class PromiseTest {
    private static final int BAD = -1, NO = -2, FULL = -3;
    private static final int LEAST = Integer.MIN_VALUE, MOST = Integer.MAX_VALUE;
    private static final Check CHECK = new Check();
    private static final String[] BODIES = {
        "", "m", "7", "maj7", "m7", "dim", "dim7", "m7b5", "aug", "sus4", "sus2", "6", "m6", "9", "maj9",
        "m9", "add9", "5", "7sus4", "mmaj7"};

    public static void main(String[] args) {
        newObject();
        feed();
        chordFaults();
        chordSteps();
        chordFull();
        of();
        step();
        write();
        shown();
        named();
        name();
        normal();
        move();
        voice();
        voiceNearBefore();
        voiceLikeCosts();
        keyAndRest();
        figure();
        count();
        CHECK.end();
    }

    private static void due(String what, long got, long want) {
        CHECK.due(what, got, want);
    }

    private static void due(String what, String got, String want) {
        CHECK.due(what, got, want);
    }

    /** A new object with one chord, which is number 0. */
    private static LeadSheets with(String name) {
        LeadSheets x = new LeadSheets();
        due("chord() of " + name, Check.chord(x, name), 0);
        return x;
    }

    private static void newObject() {
        LeadSheets x = new LeadSheets();
        for (int what = 0; what <= 4; what++) {
            due("1: count(" + what + ") of a new object", x.count(what), 0);
        }
        due("1: shown(0)", x.shown(0), BAD);
        due("1: name(0)", x.name(0), BAD);
        due("1: key(0)", x.key(0), BAD);
        due("1: of(0, 0)", x.of(0, 0), BAD);
        due("1: rest()", x.rest(), 0);
        due("1: chord()", x.chord(), -10);
        LeadSheets other = with("C");
        due("1: a second object has chords of its own", x.count(0), 0);
        due("1: and the first one too", other.count(0), 1);
    }

    private static void feed() {
        LeadSheets x = new LeadSheets();
        for (int n : new int[] {0, -1, 9, LEAST, MOST}) {
            due("2: feed(" + n + ", 67)", x.feed(n, 67), BAD);
        }
        due("2: the lowest byte alone", x.feed(1, -256L + 'C'), 1);
        due("2: the lowest byte first", x.feed(2, 'm' + ('7' << 8)), 3);
        due("2: Cm7", x.chord(), 0);
        due("2: it is Cm7", Check.written(x, 0), "Cm7");
        for (int i = 1; i <= 4; i++) {
            due("2: eight bytes", x.feed(8, -1), 8 * i);
        }
        due("2: seven bytes", x.feed(7, 0), 39);
        due("2: 41 bytes", x.feed(2, 0), FULL);
        due("2: nothing came", x.count(2), 39);
        due("2: 40 bytes", x.feed(1, 0), 40);
        due("2: one more", x.feed(1, 0), FULL);
        due("2: BAD goes ahead of FULL", x.feed(9, 0), BAD);
        due("2: bytes of 255 are no letter", x.chord(), -10);
        due("2: the tape is empty", x.feed(1, 'C'), 1);
        Check.feed(x, "m7b5");
        due("2: the eighth byte", new LeadSheets().feed(8, 'C'), 8);
        due("2: feeds go on", x.count(2), 5);
    }

    private static void fault(String name, int place) {
        LeadSheets x = new LeadSheets();
        due("3: fault of " + name, Check.chord(x, name), -10 - place);
        due("3: no chord of " + name, x.count(0), 0);
        due("3: the tape is empty after " + name, x.count(2), 0);
    }

    private static void chordFaults() {
        fault("", 0);
        fault("c", 0);
        fault("H7", 0);
        fault("#", 0);
        fault("/C", 0);
        fault("Cx", 1);
        fault("C ", 1);
        fault("Cmaj", 1);
        fault("Cmaj5", 1);
        fault("CM", 1);
        fault("C1", 1);
        fault("Cdi", 1);
        fault("Csu", 1);
        fault("Cb#", 2);
        fault("C###", 3);
        fault("Cbbb", 3);
        fault("Cma", 2);
        fault("Cmmaj", 2);
        fault("Cm5", 2);
        fault("C57", 2);
        fault("C5maj7", 2);
        fault("C-5", 2);
        fault("C77", 2);
        fault("C7m", 2);
        fault("C699", 3);
        fault("C7b1", 2);
        fault("Csus24", 5);
        fault("C/", 2);
        fault("C//", 2);
        fault("C/m", 2);
        fault("C/Gm", 3);
        fault("C/Gbb5", 5);
        fault("C/F###", 5);
        fault("C7/G/G", 4);
        wrongChanges();
        String longest = "C7b9#9add9#11add11b13no3no5/F##########";
        fault(longest + "#", 31);
        fault("C13b9#9add9#11add11b13sus4sus2", 26);
    }

    private static void wrongChanges() {
        fault("Csus2sus4", 5);
        fault("Csussus", 4);
        fault("Cno3sus4", 4);
        fault("Csus4no3", 5);
        fault("C5no3", 2);
        fault("C5sus", 2);
        fault("Cno5no5", 4);
        fault("Cno5b5", 4);
        fault("Cno5#5", 4);
        fault("Cdimb5", 4);
        fault("Caug#5", 4);
        fault("C7b5b5", 4);
        fault("C7#5#5", 4);
        fault("C7b9b9", 4);
        fault("C7#9#9", 4);
        fault("C7#11#11", 5);
        fault("C7b13b13", 5);
        fault("C9add9", 2);
        fault("C69add9", 3);
        fault("C11add11", 3);
        fault("Cadd9add9", 5);
        fault("Cadd11add11", 6);
        fault("C7b9b9x", 4);
    }

    /** The steps of a name, as DEGREE:half tones. */
    private static void steps(String name, String want) {
        LeadSheets x = with(name);
        StringBuilder got = new StringBuilder();
        for (int i = 0; i < x.of(0, 2); i++) {
            got.append(i == 0 ? "" : " ").append(x.step(0, i, 1)).append(':').append(x.step(0, i, 0));
        }
        due("3: steps of " + name, got.toString(), want);
    }

    private static void chordSteps() {
        steps("C", "1:0 3:4 5:7");
        steps("C-", "1:0 3:3 5:7");
        steps("Cm", "1:0 3:3 5:7");
        steps("Cdim", "1:0 3:3 5:6");
        steps("Co", "1:0 3:3 5:6");
        steps("Caug", "1:0 3:4 5:8");
        steps("C+", "1:0 3:4 5:8");
        steps("C5", "1:0 5:7");
        steps("C6", "1:0 3:4 5:7 6:9");
        steps("C69", "1:0 3:4 5:7 6:9 9:14");
        steps("C7", "1:0 3:4 5:7 7:10");
        steps("Co7", "1:0 3:3 5:6 7:9");
        steps("Cdim9", "1:0 3:3 5:6 7:9 9:14");
        steps("Co13", "1:0 3:3 5:6 7:9 9:14 11:17 13:21");
        steps("CoM7", "1:0 3:3 5:6 7:11");
        steps("Cdim6", "1:0 3:3 5:6 6:9");
        steps("CM7", "1:0 3:4 5:7 7:11");
        steps("Cmaj7", "1:0 3:4 5:7 7:11");
        steps("Cmmaj9", "1:0 3:3 5:7 7:11 9:14");
        steps("C-M11", "1:0 3:3 5:7 7:11 9:14 11:17");
        steps("Cmaj11", "1:0 3:4 5:7 7:11 9:14 11:17");
        steps("C+M13", "1:0 3:4 5:8 7:11 9:14 11:17 13:21");
        steps("C13", "1:0 3:4 5:7 7:10 9:14 11:17 13:21");
        steps("Cmaj13", "1:0 3:4 5:7 7:11 9:14 11:17 13:21");
        steps("C11", "1:0 3:4 5:7 7:10 9:14 11:17");
        steps("Csus2", "1:0 2:2 5:7");
        steps("Cmsus", "1:0 4:5 5:7");
        steps("C7sus4", "1:0 4:5 5:7 7:10");
        steps("C5b5", "1:0 5:6");
        steps("Cb5", "1:0 5:7");
        steps("C7b5#5", "1:0 3:4 5:8 7:10");
        steps("Cdim#5", "1:0 3:3 5:8");
        steps("C9b9", "1:0 3:4 5:7 7:10 9:13");
        steps("C9#9b9", "1:0 3:4 5:7 7:10 9:13 9:15");
        steps("C7b9add9", "1:0 3:4 5:7 7:10 9:13 9:14");
        steps("C7b9add9#9", "1:0 3:4 5:7 7:10 9:13 9:15");
        steps("C11#11", "1:0 3:4 5:7 7:10 9:14 11:18");
        steps("C11#11add11", "1:0 3:4 5:7 7:10 9:14 11:17 11:18");
        steps("C13b13", "1:0 3:4 5:7 7:10 9:14 11:17 13:20");
        steps("C5no5", "1:0");
        steps("Cno3no5", "1:0");
        steps("Cmadd9", "1:0 3:3 5:7 9:14");
        steps("C13b9#9add9#11add11b13", "1:0 3:4 5:7 7:10 9:13 9:14 9:15 11:17 11:18 13:20");
    }

    private static void chordFull() {
        LeadSheets x = with("C");
        for (int i = 1; i < 99; i++) {
            due("11: move", x.move(0, i), i);
        }
        due("3: the 100th", Check.chord(x, "Gm"), 99);
        due("3: the 101st", Check.chord(x, "Gm"), FULL);
        due("3: the tape is empty, too", x.count(2), 0);
        due("3: a FAULT goes ahead", Check.chord(x, "Gmx"), -12);
        due("11: FULL", x.move(0, 1), FULL);
        due("11: BAD goes ahead", x.move(100, 1), BAD);
        due("3: still 100", x.count(0), 100);
        due("3: the last one stays", Check.written(x, 99), "Gm");
    }

    private static void ofAll(String name, int... want) {
        LeadSheets x = with(name);
        for (int what = 0; what < want.length; what++) {
            due("4: of(0, " + what + ") of " + name, x.of(0, what), want[what]);
        }
    }

    private static void of() {
        ofAll("C", 0, 0, 3, 145, 0, 0, 0);
        ofAll("Db", 1, 1, 3, 290, 3, 0, 0);
        ofAll("C/C", 0, 0, 3, 145, 0, 0, 1);
        ofAll("C/B#", 0, 0, 3, 145, 1, 0, 1);
        ofAll("C/F#", 0, 6, 3, 209, 1, 0, 1);
        ofAll("Cb", 11, 11, 3, 2120, 4, 0, 0);
        ofAll("B##", 1, 1, 3, 290, 10, 0, 0);
        ofAll("Am7/G", 9, 7, 4, 657, 0, 4, 1);
        ofAll("C7b5", 0, 0, 4, 1105, 2, NO, 0);
        ofAll("C5no5/Fbb", 0, 3, 1, 9, 2, NO, 1);
        for (int body = 0; body < BODIES.length; body++) {
            due("4: body of " + BODIES[body], with("A" + BODIES[body]).of(0, 5), body);
        }
        due("4: the same steps by another way", with("CM7no5#11").of(0, 5), NO);
        due("4: body of Cno3", with("Cno3").of(0, 5), 17);
        due("4: body of C-7b5", with("C-7b5").of(0, 5), 7);
        LeadSheets x = with("C");
        for (int wild : new int[] {-1, 1, 100, LEAST, MOST}) {
            due("4: of(" + wild + ", 0)", x.of(wild, 0), BAD);
        }
        for (int wild : new int[] {-1, 7, LEAST, MOST}) {
            due("4: of(0, " + wild + ")", x.of(0, wild), BAD);
        }
    }

    private static void stepAll(String name, int i, int... want) {
        LeadSheets x = with(name);
        for (int what = 0; what < want.length; what++) {
            due("5: step(0, " + i + ", " + what + ") of " + name, x.step(0, i, what), want[what]);
        }
    }

    private static void step() {
        stepAll("Cm", 0, 0, 1, 0, 0, 0);
        stepAll("Cm", 1, 3, 3, 2, -1, 3);
        stepAll("Fbbdim7", 3, 9, 7, 2, -4, 0);
        stepAll("B##+", 2, 8, 5, 3, 4, 9);
        stepAll("B13", 6, 21, 13, 4, 1, 8);
        stepAll("C", -1, BAD, BAD, 0, 0, 0);
        stepAll("C/Abb", -1, BAD, BAD, 5, -2, 7);
        stepAll("Bb", -1, BAD, BAD, 6, -1, 10);
        LeadSheets x = with("C7/B##");
        due("5: SIGNS of the bass", x.step(0, -1, 3), 2);
        for (int wild : new int[] {-2, 4, LEAST, MOST}) {
            due("5: step(0, " + wild + ", 2)", x.step(0, wild, 2), BAD);
        }
        for (int wild : new int[] {-1, 5, LEAST, MOST}) {
            due("5: step(0, 0, " + wild + ")", x.step(0, 0, wild), BAD);
            due("5: step(0, -1, " + wild + ")", x.step(0, -1, wild), BAD);
            due("5: step(" + (wild | 1) + ", 0, 0)", x.step(wild | 1, 0, 0), BAD);
        }
    }

    private static void written(String name, String want) {
        due("6: " + name + " written", Check.written(with(name), 0), want);
    }

    private static void write() {
        for (String body : BODIES) {
            written("F#" + body, "F#" + body);
            written("Gbb" + body + "/Ab", "Gbb" + body + "/Ab");
        }
        written("C-", "Cm");
        written("CM7", "Cmaj7");
        written("Co7", "Cdim7");
        written("Csus", "Csus4");
        written("C/C", "C");
        written("C/Dbb", "C");
        written("C69", "C?");
        written("C69/E", "C?/E");
        written("C##7sus4/F##", "C##7sus4/F##");
        LeadSheets x = with("C");
        x.write(0);
        for (int wild : new int[] {-1, 1, LEAST, MOST}) {
            due("6: write(" + wild + ")", x.write(wild), BAD);
        }
        due("6: what was shown stays", x.count(3), 1);
    }

    private static void shown() {
        LeadSheets x = with("Bb/D");
        x.write(0);
        due("7: shown(0)", x.shown(0), 'B');
        due("7: shown(3)", x.shown(3), 'D');
        for (int wild : new int[] {-1, 4, 12, 100, LEAST, MOST}) {
            due("7: shown(" + wild + ")", x.shown(wild), BAD);
        }
        x.figure(0, 10);
        due("7: the figure is the latest", Check.shown(x), "I6");
        x.named(145, 0);
        due("7: named() shows nothing", Check.shown(x), "I6");
        x.name(0);
        due("7: the name is the latest", Check.shown(x), "C");
        x.normal(0);
        due("7: normal() shows nothing", Check.shown(x), "C");
    }

    private static void names(int set, int bass, String want) {
        LeadSheets x = new LeadSheets();
        int got = x.named(set, bass);
        due("8: named(" + set + ", " + bass + ")", got, want.isEmpty() ? 0 : want.split(" ").length);
        due("9: names of " + set + " with " + bass, Check.names(x), want);
    }

    private static void named() {
        names(145, 0, "C");
        names(145, 4, "C/E C5/E");
        names(145, 7, "C/G");
        names(2193, 0, "Cmaj7 Em/C");
        names(129, 7, "C5/G");
        names(1, 0, "");
        names(4095, 11, "");
        names(1090, 6, "Gb");
        names(578, 6, "F#m");
        names(273, 4, "Eaug Abaug/E Caug/E");
        names(585, 0, "Cdim7 D#dim/C D#dim7/C F#dim7/C Adim7/C");
        LeadSheets x = new LeadSheets();
        x.named(145, 4);
        for (int wild : new int[] {0, -1, 4096, LEAST, MOST}) {
            due("8: named(" + wild + ", 0)", x.named(wild, 0), BAD);
        }
        for (int wild : new int[] {-1, 1, 12, 32, 36, LEAST, MOST}) {
            due("8: named(145, " + wild + ")", x.named(145, wild), BAD);
        }
        due("8: 4095 with 12", x.named(4095, 12), BAD);
        due("8: 4097 with 0", x.named(4097, 0), BAD);
        due("8: a negative set with its bit", x.named(-1, 3), BAD);
        due("8: what was found stays", x.count(1), 2);
        due("8: named(3, 0)", x.named(3, 0), 0);
        due("8: none are found now", x.count(1), 0);
    }

    private static void name() {
        LeadSheets x = new LeadSheets();
        x.named(145, 4);
        due("9: name(1)", x.name(1), 4);
        for (int wild : new int[] {-1, 2, 240, LEAST, MOST}) {
            due("9: name(" + wild + ")", x.name(wild), BAD);
        }
        due("9: what was shown stays", Check.shown(x), "C5/E");
        x.named(1, 0);
        due("9: name(0) of none", x.name(0), BAD);
    }

    private static void isNormal(String name, int want) {
        due("10: normal(0) of " + name, with(name).normal(0), want);
    }

    private static void normal() {
        isNormal("C", 1);
        isNormal("C/B#", 1);
        isNormal("Gb", 1);
        isNormal("F#", 0);
        isNormal("C6", 1);
        isNormal("Am7/C", 0);
        isNormal("C/E", 1);
        isNormal("C/Fb", 0);
        isNormal("C5/E", 0);
        isNormal("C69", 0);
        isNormal("C13", 0);
        isNormal("C5no5", 0);
        isNormal("Eaug", 1);
        isNormal("Fbaug", 0);
        LeadSheets x = with("C/E");
        x.named(129, 0);
        x.normal(0);
        due("10: it is not kept as found", x.count(1), 1);
        due("10: nor is its bass", Check.names(x), "C5");
        for (int wild : new int[] {-1, 1, LEAST, MOST}) {
            due("10: normal(" + wild + ")", x.normal(wild), BAD);
        }
    }

    private static void moved(String name, int by, String want) {
        LeadSheets x = with(name);
        due("11: move(0, " + by + ") of " + name, x.move(0, by), 1);
        due("11: " + name + " moved by " + by, Check.written(x, 1), want);
        due("11: the steps stay", x.of(1, 2), x.of(0, 2));
        due("11: so does the /", x.of(1, 6), x.of(0, 6));
        due("11: " + name + " stays", x.of(0, 0) == x.of(1, 0) ? 1 : 0, Math.floorMod(by, 12) == 0 ? 1 : 0);
    }

    private static void move() {
        moved("C", 0, "C");
        moved("C", 1, "Db");
        moved("Cm", 1, "C#m");
        moved("C", 6, "Gb");
        moved("C", 12, "C");
        moved("C", -11, "Db");
        moved("C", LEAST, "E");
        moved("C", MOST, "G");
        moved("C##", 0, "D");
        moved("C/F#", 0, "C/Gb");
        moved("Dbmaj7/F", 6, "Gmaj7/B");
        moved("Cdim7", 3, "D#dim7");
        moved("C69/E", 2, "D?/Gb");
        moved("C69", 11, "B?");
        // Bbb would be as light as A, but has two signs.
        moved("A+M7#9#11/E", 0, "A?/E");
        LeadSheets x = with("C/B#");
        x.move(0, 0);
        due("11: the bass behind / stays one", x.of(1, 6), 1);
        due("11: with the fewest signs", x.step(1, -1, 2), 0);
        for (int wild : new int[] {-1, 2, LEAST, MOST}) {
            due("11: move(" + wild + ", 1)", x.move(wild, 1), BAD);
        }
        due("11: no chord came", x.count(0), 2);
    }

    private static void voiced(String name, int low, int high, String want) {
        LeadSheets x = with(name);
        int got = x.voice(0, low, high);
        due("12: voice(0, " + low + ", " + high + ") of " + name, got, want.isEmpty() ? NO : want.split(" ").length);
        due("13: keys of " + name + " in " + low + " .. " + high, Check.keys(x), want);
    }

    private static void voice() {
        voiced("C", 48, 84, "48 52 55");
        voiced("C", 49, 85, "60 64 67");
        voiced("C", 60, 67, "60 64 67");
        voiced("C", 60, 66, "");
        voiced("C", 61, 70, "");
        voiced("C/G", 48, 72, "55 60 64");
        voiced("C/F#", 48, 84, "54 55 60 64");
        voiced("C/C", 0, 36, "0 4 7");
        voiced("C5no5", 60, 60, "60");
        voiced("C5no5", 0, 0, "0");
        voiced("C5no5", 61, 71, "");
        voiced("G5no5", 127, 127, "127");
        voiced("C13b9#9add9#11add11b13/A", 40, 76, "45 46 48 49 50 51 52 53 54 55 56");
        LeadSheets x = with("C");
        x.voice(0, 48, 60);
        due("12: no such chord", x.voice(1, 48, 60), BAD);
        due("12: no such chord", x.voice(-1, 48, 60), BAD);
        due("12: 37 above", x.voice(0, 48, 85), BAD);
        due("12: below", x.voice(0, 48, 47), BAD);
        due("12: low -1", x.voice(0, -1, 20), BAD);
        due("12: high 128", x.voice(0, 100, 128), BAD);
        due("12: wild ones", x.voice(0, LEAST, MOST), BAD);
        due("12: wild ones", x.voice(0, MOST, LEAST), BAD);
        due("12: BAD goes ahead of NO", x.voice(0, 127, 128), BAD);
        due("12: NO", x.voice(0, 61, 63), NO);
        due("12: the one before stays", Check.keys(x), "48 52 55");
    }

    private static void voiceNearBefore() {
        LeadSheets x = with("C");
        Check.chord(x, "F");
        Check.chord(x, "G7/B");
        due("12: C", x.voice(0, 60, 72), 3);
        due("12: F below it", x.voice(1, 41, 77), 3);
        due("12: the nearest F, its spread counted", Check.keys(x), "65 69 72");
        due("12: G7/B", x.voice(2, 41, 77), 4);
        due("12: the nearest G7/B", Check.keys(x), "59 62 65 67");
        due("12: NO keeps the one before", x.voice(0, 61, 65), NO);
        due("12: C again", x.voice(0, 36, 72), 3);
        due("12: nearest to G7/B", Check.keys(x), "60 64 67");
        due("14: rest()", x.rest(), 3);
        due("12: without one before", x.voice(0, 36, 72), 3);
        due("12: the lowest of like ones", Check.keys(x), "36 40 43");
    }

    private static void voiceLikeCosts() {
        LeadSheets x = with("C");
        Check.chord(x, "C7#11add11");
        Check.chord(x, "C9#11add11");
        x.voice(0, 60, 67);
        due("12: a wide one", x.voice(1, 48, 67), 6);
        due("12: keys stay high, but for those that can't", Check.keys(x), "48 58 64 65 66 67");
        due("12: D is as near at 50 as at 62", x.voice(2, 48, 67), 7);
        due("12: the lower one comes first", Check.keys(x), "48 50 58 64 65 66 67");
    }

    private static void keyAndRest() {
        LeadSheets x = with("C7");
        x.voice(0, 60, 72);
        due("13: key(0)", x.key(0), 60);
        due("13: key(3)", x.key(3), 70);
        for (int wild : new int[] {-1, 4, 12, LEAST, MOST}) {
            due("13: key(" + wild + ")", x.key(wild), BAD);
        }
        due("14: rest()", x.rest(), 4);
        due("14: rest() again", x.rest(), 0);
        due("14: no key is left", x.key(0), BAD);
        due("14: none are counted", x.count(4), 0);
    }

    private static void figured(String name, int key, String want) {
        due("15: figure of " + name + " in " + key, Check.figure(with(name), 0, key), want);
    }

    private static void figure() {
        String[] great = {"I", "bII", "II", "bIII", "III", "IV", "bV", "V", "bVI", "VI", "bVII", "VII"};
        String[] small = {"i", "bii", "ii", "biii", "iii", "iv", "bv", "v", "bvi", "vi", "bvii", "vii"};
        for (int up = 0; up < 12; up++) {
            figured("C", (12 - up) % 12, great[up]);
            figured("Cm7", (12 - up) % 12, small[up] + "7");
            figured("D13/Bb", (10 - up + 12) % 12, great[(up + 4) % 12] + "7/" + great[up]);
        }
        figured("C/E", 0, "I6");
        figured("C/G", 0, "I64");
        figured("C7/E", 0, "I65");
        figured("C7/G", 0, "I43");
        figured("C7/Bb", 0, "I42");
        figured("C7/C", 0, "I7");
        figured("C/Bb", 0, "I/bVII");
        figured("Cdim", 0, "io");
        figured("Cdim7/Gb", 0, "io43");
        figured("Caug/G#", 0, "I+64");
        figured("C+M7/B", 0, "I+42");
        figured("Cm#5", 0, "i");
        figured("C7b5", 0, "I7");
        figured("C7#11", 0, "I7");
        figured("C5", 0, "I");
        figured("Cno3b5", 0, "I");
        figured("Csus4/F", 0, "I/IV");
        figured("Csus2/D", 0, "I/II");
        figured("C6/A", 0, "I/VI");
        figured("C9/D", 0, "I7/II");
        figured("C7#9/Eb", 0, "I7/bIII");
        figured("Cm7#9/D#", 0, "i65");
        figured("Dbm7b5/C", 2, "viio7/bVII");
        figured("Cm7b5/Db", 1, "viio7/I");
        figured("Cm7b5/B", 1, "viio7/bVII");
        LeadSheets x = with("C");
        x.figure(0, 0);
        for (int wild : new int[] {-1, 12, LEAST, MOST}) {
            due("15: figure(0, " + wild + ")", x.figure(0, wild), BAD);
        }
        for (int wild : new int[] {-1, 1, LEAST, MOST}) {
            due("15: figure(" + wild + ", 0)", x.figure(wild, 0), BAD);
        }
        due("15: what was shown stays", Check.shown(x), "I");
    }

    private static void count() {
        LeadSheets x = with("C7");
        Check.chord(x, "F");
        Check.feed(x, "Abc");
        x.named(145, 4);
        x.write(0);
        x.voice(0, 60, 72);
        int[] want = {2, 2, 3, 2, 4};
        for (int what = 0; what < want.length; what++) {
            due("16: count(" + what + ")", x.count(what), want[what]);
        }
        for (int wild : new int[] {-1, 5, LEAST, MOST}) {
            due("16: count(" + wild + ")", x.count(wild), BAD);
        }
    }
}
