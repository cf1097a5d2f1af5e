/**
 * The boundary cases of names, sentence by sentence of the document's Terms 1: which byte is the last
 * that is taken, and at which one THE FAULT stands.
 */
public final class NameEdgeTest {
    private static final Check CHECK = new Check();
    private static final String[] SIZES = {
        "6", "69", "7", "maj7", "M7", "9", "maj9", "M9", "11", "maj11", "M11", "13", "maj13", "M13"};

    public static void main(String[] args) {
        letters();
        signs();
        pitchesGoAround();
        kinds();
        smallMInFrontOfAj();
        sizes();
        noneBehindTheKind5();
        dimLowersOnlyA7();
        changes();
        theDegreeIsNotThere();
        theStepIsThere();
        fifthIsSoAlready();
        goesIfThereIsOne();
        behindTheSlash();
        endsTooSoon();
        fortyBytes();
        stepsInOrder();
        signsOfSteps();
        weights();
        CHECK.end();
    }

    private static void fault(String name, int place) {
        LeadSheets x = new LeadSheets();
        CHECK.due("chord() of \"" + name + "\"", Check.chord(x, name), -10 - place);
        CHECK.due("chords after \"" + name + "\"", x.count(0), 0);
        CHECK.due("the tape after \"" + name + "\"", x.count(2), 0);
    }

    private static LeadSheets taken(String name) {
        LeadSheets x = new LeadSheets();
        CHECK.due("chord() of \"" + name + "\"", Check.chord(x, name), 0);
        CHECK.due("the tape after \"" + name + "\"", x.count(2), 0);
        return x;
    }

    /** The letter, SIGNS and pitch of the ROOT, and what stands behind it as DEGREE:half tones. */
    private static void read(String name, int letter, int signs, String steps) {
        LeadSheets x = taken(name);
        CHECK.due("the ROOT's letter of " + name, x.step(0, 0, 2), letter);
        CHECK.due("the ROOT's SIGNS of " + name, x.step(0, 0, 3), signs);
        CHECK.due("STEPS of " + name, stepsOf(x), steps);
    }

    private static void steps(String name, String want) {
        CHECK.due("STEPS of " + name, stepsOf(taken(name)), want);
    }

    private static String stepsOf(LeadSheets x) {
        StringBuilder all = new StringBuilder();
        for (int i = 0; x.step(0, i, 1) != LeadSheets.BAD; i++) {
            all.append(i == 0 ? "" : " ").append(x.step(0, i, 1)).append(':').append(x.step(0, i, 0));
        }
        return all.toString();
    }

    /** "a letter A .. G" */
    private static void letters() {
        int[] pitches = {9, 11, 0, 2, 4, 5, 7};
        for (char letter = 'A'; letter <= 'G'; letter++) {
            CHECK.due("pitch of " + letter, taken("" + letter).of(0, 0), pitches[letter - 'A']);
            CHECK.due("pitch of C/" + letter, taken("C/" + letter).of(0, 1), pitches[letter - 'A']);
        }
        for (char wrong : new char[] {'@', 'H', 'a', 'g', 0, ' ', 255, '#', 'b', '/', '5'}) {
            fault("" + wrong, 0);
            fault(wrong + "C", 0);
            fault("C/" + wrong, 2);
        }
    }

    /** "then ##, #, bb, b or nothing", and "the longest one that stands there" */
    private static void signs() {
        read("E", 2, 0, "1:0 3:4 5:7");
        read("Eb", 2, -1, "1:0 3:4 5:7");
        read("Ebb", 2, -2, "1:0 3:4 5:7");
        read("E#", 2, 1, "1:0 3:4 5:7");
        read("E##", 2, 2, "1:0 3:4 5:7");
        fault("E###", 3);
        fault("Ebbb", 3);
        fault("E#b", 2);
        fault("Eb#", 2);
        read("Eb5", 2, -1, "1:0 5:7");
        read("Ebb5", 2, -2, "1:0 5:7");
        read("Ebbb5", 2, -2, "1:0 3:4 5:6");
        read("E#5", 2, 1, "1:0 5:7");
        read("E##5", 2, 2, "1:0 5:7");
        read("E###5", 2, 2, "1:0 3:4 5:8");
        read("E#b5", 2, 1, "1:0 3:4 5:6");
        read("Eb#5", 2, -1, "1:0 3:4 5:8");
        read("Eb9", 2, -1, "1:0 3:4 5:7 7:10 9:14");
        read("Ebbb9", 2, -2, "1:0 3:4 5:7 9:13");
        read("E#11", 2, 1, "1:0 3:4 5:7 7:10 9:14 11:17");
        read("E###11", 2, 2, "1:0 3:4 5:7 11:18");
    }

    /** "its PITCH is the letter's and its SIGNS, modulo 12" */
    private static void pitchesGoAround() {
        String[] notes = {"C", "Cb", "Cbb", "Db", "Dbb", "B", "B#", "B##", "A#", "A##", "E#", "Fb", "Fbb"};
        int[] pitches = {0, 11, 10, 1, 0, 11, 0, 1, 10, 11, 5, 4, 3};
        for (int i = 0; i < notes.length; i++) {
            LeadSheets x = taken(notes[i]);
            CHECK.due("pitch of " + notes[i], x.of(0, 0), pitches[i]);
            CHECK.due("pitch of STEP 0 of " + notes[i], x.step(0, 0, 4), pitches[i]);
            CHECK.due("pitch of C/" + notes[i], taken("C/" + notes[i]).step(0, -1, 4), pitches[i]);
        }
        CHECK.due("a SET around B", taken("B").of(0, 3), 1 << 11 | 1 << 3 | 1 << 6);
        CHECK.due("STEPS beyond an octave", taken("B13").of(0, 3), 1 << 11 | 1 << 3 | 1 << 6 | 1 << 9 | 1 << 1 | 1 << 4 | 1 << 8);
    }

    /** "KIND: m .., -, dim, o, aug, +, 5; or none" */
    private static void kinds() {
        steps("D", "1:0 3:4 5:7");
        steps("Dm", "1:0 3:3 5:7");
        steps("D-", "1:0 3:3 5:7");
        steps("Ddim", "1:0 3:3 5:6");
        steps("Do", "1:0 3:3 5:6");
        steps("Daug", "1:0 3:4 5:8");
        steps("D+", "1:0 3:4 5:8");
        steps("D5", "1:0 5:7");
        for (String wrong : new String[] {"d", "di", "a", "au", "M", "min", "O", "4", "0"}) {
            fault("D" + wrong, wrong.equals("min") ? 2 : 1);
        }
        for (String second : new String[] {"m", "-", "dim", "o", "aug", "+", "5"}) {
            fault("Dm" + second, 2);
            fault("D-" + second, 2);
            fault("Ddim" + second, 4);
            fault("Do" + second, 2);
            fault("Daug" + second, 4);
            fault("D+" + second, 2);
            fault("D5" + second, 2);
        }
    }

    /** "m (not in front of aj)" */
    private static void smallMInFrontOfAj() {
        steps("Gm", "1:0 3:3 5:7");
        steps("Gmaj7", "1:0 3:4 5:7 7:11");
        steps("Gmmaj7", "1:0 3:3 5:7 7:11");
        steps("Gmadd9", "1:0 3:3 5:7 9:14");
        steps("G-maj7", "1:0 3:3 5:7 7:11");
        steps("Gdimmaj7", "1:0 3:3 5:6 7:11");
        fault("Gma", 2);
        fault("Gmj7", 2);
        fault("Gmxj7", 2);
        fault("Gmaj", 1);
        fault("Gmaj6", 1);
        fault("Gmaj69", 1);
        fault("Gmaj5", 1);
        fault("Gmmaj", 2);
        fault("Gmmmaj7", 2);
        fault("Gdimaj7", 4);
        fault("Gmaadd9", 2);
    }

    /** "SIZE: 6, 69, 7, maj7, M7 .. M13; or none", and what each brings */
    private static void sizes() {
        String triad = "1:0 3:4 5:7";
        String[] brought = {
            " 6:9", " 6:9 9:14", " 7:10", " 7:11", " 7:11", " 7:10 9:14", " 7:11 9:14", " 7:11 9:14",
            " 7:10 9:14 11:17", " 7:11 9:14 11:17", " 7:11 9:14 11:17",
            " 7:10 9:14 11:17 13:21", " 7:11 9:14 11:17 13:21", " 7:11 9:14 11:17 13:21"};
        for (int i = 0; i < SIZES.length; i++) {
            steps("A" + SIZES[i], triad + brought[i]);
            steps("A+" + SIZES[i], "1:0 3:4 5:8" + brought[i]);
            steps("Am" + SIZES[i], "1:0 3:3 5:7" + brought[i]);
            steps("A-" + SIZES[i], "1:0 3:3 5:7" + brought[i]);
        }
        for (String wrong : new String[] {"8", "1", "10", "12", "14", "15", "M", "M5", "M6", "M1", "M12", "maj", "maj1", "maj12", "M69"}) {
            fault("A" + wrong, 1);
        }
        for (String two : new String[] {"66", "67", "76", "77", "79", "96", "97", "711", "6M7"}) {
            fault("A" + two, 2);
        }
        for (String two : new String[] {"696", "699", "113", "117", "131", "139"}) {
            fault("A" + two, 3);
        }
        fault("Amaj7maj7", 5);
        fault("AM77", 3);
    }

    /** "none behind the KIND 5" */
    private static void noneBehindTheKind5() {
        for (String size : SIZES) {
            fault("B5" + size, 2);
        }
        steps("B5add9", "1:0 5:7 9:14");
        steps("B5b5", "1:0 5:6");
        steps("B5/A", "1:0 5:7");
    }

    /** "7: 7: 10 (with dim, o 9)"; 9, 11 and 13 "as 7", maj7 and M7 not */
    private static void dimLowersOnlyA7() {
        for (String kind : new String[] {"dim", "o"}) {
            String triad = "1:0 3:3 5:6";
            steps("F" + kind + "6", triad + " 6:9");
            steps("F" + kind + "69", triad + " 6:9 9:14");
            steps("F" + kind + "7", triad + " 7:9");
            steps("F" + kind + "9", triad + " 7:9 9:14");
            steps("F" + kind + "11", triad + " 7:9 9:14 11:17");
            steps("F" + kind + "13", triad + " 7:9 9:14 11:17 13:21");
            steps("F" + kind + "maj7", triad + " 7:11");
            steps("F" + kind + "M9", triad + " 7:11 9:14");
            steps("F" + kind + "maj11", triad + " 7:11 9:14 11:17");
            steps("F" + kind + "M13", triad + " 7:11 9:14 11:17 13:21");
        }
        steps("Fm7b5", "1:0 3:3 5:6 7:10");
    }

    /** "CHANGE: sus2, sus4, sus, b5, #5, b9, #9, #11, b13, add9, add11, no3, no5" */
    private static void changes() {
        steps("C7sus2", "1:0 2:2 5:7 7:10");
        steps("C7sus4", "1:0 4:5 5:7 7:10");
        steps("C7sus", "1:0 4:5 5:7 7:10");
        steps("Cmsus2", "1:0 2:2 5:7");
        steps("C7b5", "1:0 3:4 5:6 7:10");
        steps("C7#5", "1:0 3:4 5:8 7:10");
        steps("C7b9", "1:0 3:4 5:7 7:10 9:13");
        steps("C7#9", "1:0 3:4 5:7 7:10 9:15");
        steps("C7#11", "1:0 3:4 5:7 7:10 11:18");
        steps("C7b13", "1:0 3:4 5:7 7:10 13:20");
        steps("C7add9", "1:0 3:4 5:7 7:10 9:14");
        steps("C7add11", "1:0 3:4 5:7 7:10 11:17");
        steps("C7no3", "1:0 5:7 7:10");
        steps("C7no5", "1:0 3:4 7:10");
        steps("Csusb9", "1:0 4:5 5:7 9:13");
        fault("Csus24", 5);
        fault("Csus42", 5);
        fault("Csus3", 4);
        fault("Csu", 1);
        for (String wrong : new String[] {"b", "#", "b1", "#1", "b11", "#13", "b6", "#7", "add", "add1", "add5",
            "add13", "no", "no1", "no7", "su", "s", "7", "m"}) {
            fault("C7" + wrong, 2);
            fault("C7sus2" + wrong, 6);
        }
        fault("C7add119", 7);
        fault("C7b139", 5);
    }

    /** "WRONG, if the DEGREE that it changes or takes is not there" */
    private static void theDegreeIsNotThere() {
        for (String change : new String[] {"sus2", "sus4", "sus", "no3"}) {
            fault("C5" + change, 2);
            fault("Cno3" + change, 4);
            fault("Csus2" + change, 5);
            fault("Csus4" + change, 5);
            steps("Cno5" + change, change.equals("no3") ? "1:0" : change.equals("sus2") ? "1:0 2:2" : "1:0 4:5");
        }
        fault("Csussus2", 4);
        fault("Csusno3", 4);
        for (String change : new String[] {"b5", "#5", "no5"}) {
            fault("Cno5" + change, 4);
            fault("C5no5" + change, 5);
        }
        steps("C5no5", "1:0");
    }

    /** "if it brings a STEP that there is (the same DEGREE and half tones)" */
    private static void theStepIsThere() {
        fault("C7b9b9", 4);
        fault("C7#9#9", 4);
        fault("C7#11#11", 5);
        fault("C7b13b13", 5);
        fault("C7add9add9", 6);
        fault("C7add11add11", 7);
        fault("C9add9", 2);
        fault("C69add9", 3);
        fault("Cmaj13add9", 6);
        fault("C11add11", 3);
        fault("C13add11", 3);
        fault("C9b9add9b9", 8);
        fault("C11#11add11#11", 11);
        fault("C13b13b13", 6);
        steps("C7b9#9", "1:0 3:4 5:7 7:10 9:13 9:15");
        steps("C9b9add9", "1:0 3:4 5:7 7:10 9:13 9:14");
        steps("C7add9add11", "1:0 3:4 5:7 7:10 9:14 11:17");
        // 4: 5 and 11: 17, or 2: 2 and 9: 14, have one pitch but are not the same STEP.
        steps("C11sus4", "1:0 4:5 5:7 7:10 9:14 11:17");
        steps("C9sus2", "1:0 2:2 5:7 7:10 9:14");
        steps("C6b13", "1:0 3:4 5:7 6:9 13:20");
    }

    /** "or b5, #5 find it so already" */
    private static void fifthIsSoAlready() {
        fault("Cdimb5", 4);
        fault("Cob5", 2);
        fault("Caug#5", 4);
        fault("C+#5", 2);
        fault("C7b5b5", 4);
        fault("C7#5#5", 4);
        steps("Cdim#5", "1:0 3:3 5:8");
        steps("C+b5", "1:0 3:4 5:6");
        steps("C7b5#5b5", "1:0 3:4 5:6 7:10");
        steps("C7#5b5#5", "1:0 3:4 5:8 7:10");
    }

    /** "and one with 14, if there is one, goes"; "in place of 17 likewise"; "in place of 21 likewise" */
    private static void goesIfThereIsOne() {
        steps("Cb9", "1:0 3:4 5:7 7:10 9:14");
        steps("Cmb9", "1:0 3:3 5:7 9:13");
        steps("C9b9", "1:0 3:4 5:7 7:10 9:13");
        steps("C9#9", "1:0 3:4 5:7 7:10 9:15");
        steps("C9b9#9", "1:0 3:4 5:7 7:10 9:13 9:15");
        steps("C69b9", "1:0 3:4 5:7 6:9 9:13");
        steps("C9add11#11", "1:0 3:4 5:7 7:10 9:14 11:18");
        steps("C11#11", "1:0 3:4 5:7 7:10 9:14 11:18");
        steps("C11b13", "1:0 3:4 5:7 7:10 9:14 11:17 13:20");
        steps("C13b13", "1:0 3:4 5:7 7:10 9:14 11:17 13:20");
        steps("C13#11", "1:0 3:4 5:7 7:10 9:14 11:18 13:21");
        steps("C7b9add9#9", "1:0 3:4 5:7 7:10 9:13 9:15");
    }

    /** "[/ NOTE]", behind which nothing comes */
    private static void behindTheSlash() {
        LeadSheets x = taken("C/E##");
        CHECK.due("the BASS's letter", x.step(0, -1, 2), 2);
        CHECK.due("the BASS's SIGNS", x.step(0, -1, 3), 2);
        CHECK.due("the BASS's SIGNS of C/Ebb", taken("C/Ebb").step(0, -1, 3), -2);
        fault("C/E###", 5);
        fault("C/Ebbb", 5);
        fault("C/Ebb5", 5);
        fault("C/E#b", 4);
        fault("C/E5", 3);
        fault("C/Em", 3);
        fault("C/E/", 3);
        fault("C/E/E", 3);
        fault("C//E", 2);
        fault("C/E ", 3);
        fault("/E", 0);
        steps("C13no3/E", "1:0 5:7 7:10 9:14 11:17 13:21");
    }

    /** "(its length, if it ends there too soon)" */
    private static void endsTooSoon() {
        fault("", 0);
        fault("C/", 2);
        fault("C#/", 3);
        fault("Cmaj7/", 6);
        fault("Cm7b5/", 6);
    }

    /** The longest tape: a NAME of 40 bytes, and FAULTS at its last byte and behind it. */
    private static void fortyBytes() {
        String fifths = "b5#5b5#5b5#5b5#5b5#5b5#5b5#5b5#5b5#5";
        steps("C#-7" + fifths, "1:0 3:3 5:8 7:10");
        fault("C#m" + fifths + "/", 40);
        fault("C#-7" + fifths.substring(0, 35) + "6", 38);
        fault("C#m" + fifths + "x", 39);
        taken("Cm" + fifths + "/G");
        fault("Cm" + fifths + "/x", 39);
        fault("Cm7" + fifths + "/", 40);
        fault("Cm7x" + fifths, 3);
    }

    /** "STEPS are in order by half tones", in whatever order they came */
    private static void stepsInOrder() {
        steps("C7b13#11#9b9", "1:0 3:4 5:7 7:10 9:13 9:15 11:18 13:20");
        steps("C6add11#5", "1:0 3:4 5:8 6:9 11:17");
        steps("C7b13sus2", "1:0 2:2 5:7 7:10 13:20");
        steps("C13b9#9add9#11add11b13", "1:0 3:4 5:7 7:10 9:13 9:14 9:15 11:17 11:18 13:20");
    }

    private static void noteOfLast(String name, int letter, int signs, int pitch) {
        LeadSheets x = taken(name);
        int last = x.of(0, 2) - 1;
        CHECK.due("letter of the last STEP of " + name, x.step(0, last, 2), letter);
        CHECK.due("SIGNS of the last STEP of " + name, x.step(0, last, 3), signs);
        CHECK.due("pitch of the last STEP of " + name, x.step(0, last, 4), pitch);
    }

    /** "DEGREE less 1 letters behind the ROOT's (around), its SIGNS what makes its pitch right" */
    private static void signsOfSteps() {
        noteOfLast("C5", 4, 0, 7);
        noteOfLast("B5", 3, 1, 6);
        noteOfLast("F5", 0, 0, 0);
        noteOfLast("Cmaj7", 6, 0, 11);
        noteOfLast("Dmaj7", 0, 1, 1);
        noteOfLast("B13", 4, 1, 8);
        noteOfLast("C13", 5, 0, 9);
        noteOfLast("B##+", 3, 4, 9);
        noteOfLast("E##7#9", 3, 4, 9);
        noteOfLast("Fbbdim7", 2, -4, 0);
        noteOfLast("Cbbo7", 6, -4, 7);
        noteOfLast("Cb7b13", 5, -2, 7);
        noteOfLast("B##5", 3, 3, 8);
    }

    private static void weight(String name, int want) {
        CHECK.due("WEIGHT of " + name, taken(name).of(0, 4), want);
    }

    /** "the sizes of the SIGNS of all NOTES of STEPS, and of the BASS, together" */
    private static void weights() {
        weight("C", 0);
        weight("C/Cb", 1);
        weight("C/C##", 2);
        weight("C/Cbb", 2);
        weight("Cm", 1);
        weight("C#", 4);
        weight("C#/C", 3);
        weight("Cb", 4);
        weight("Fbbdim7", 14);
        weight("B##+", 11);
    }
}
