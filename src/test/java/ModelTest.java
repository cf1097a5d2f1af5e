import java.util.Random;

/** Runs of calls, drawn with fixed seeds, on the program and on the model beside it. */
public final class ModelTest {
    private static final String[] PARTS = {
        "m", "-", "dim", "o", "aug", "+", "5", "6", "69", "7", "maj7", "M7", "9", "maj9", "M9", "11", "maj11",
        "M11", "13", "maj13", "M13", "sus2", "sus4", "sus", "b5", "#5", "b9", "#9", "#11", "b13", "add9",
        "add11", "no3", "no5", "b", "#", "/", "maj", "1", "a", "su", "H", "\u00e9"};
    private static final int CHANGE_FROM = 21, CHANGE_TO = 34;

    private static final int RUNS = 1000;
    /** An object is used for 512 calls; what one round calls stays below the rest. */
    private static final int LAST_ROUND = 300;

    private static final Check CHECK = new Check();

    private final Random random;
    private final String label;
    private final LeadSheets sheets = new LeadSheets();
    private final Model model = new Model();
    private int calls;

    private ModelTest(int seed) {
        label = "run " + seed + ": ";
        random = new Random(seed);
    }

    public static void main(String[] args) {
        for (int run = 1; run <= RUNS; run++) {
            ModelTest test = new ModelTest(run);
            while (test.calls < LAST_ROUND) {
                test.round();
            }
            test.counts();
            CHECK.due(test.label + "calls of one object are at most 512", test.calls <= 512 ? 1 : 0, 1);
        }
        everySet();
        CHECK.end();
    }

    private void due(String call, int got, int want) {
        calls++;
        CHECK.due(label + call, got, want);
    }

    private int below(int bound) {
        return random.nextInt(bound);
    }

    /** Mostly a number of a chord that there is. */
    private int someChord() {
        int wild = below(40);
        int chords = model.count(0);
        return wild == 0 ? -1 : wild == 1 ? chords : wild == 2 ? random.nextInt() : below(Math.max(1, chords));
    }

    private void round() {
        switch (below(20)) {
            case 0:
            case 1:
            case 2:
                feedName();
                break;
            case 3:
            case 4:
            case 5:
                due("chord()", sheets.chord(), model.chord());
                break;
            case 6:
                feedAny(below(11) - 1, random.nextLong());
                break;
            case 7:
                allOf(someChord());
                break;
            case 8:
                allSteps(someChord());
                break;
            case 9:
            case 10:
                oneChord();
                break;
            case 11:
            case 12:
                names();
                break;
            case 13:
            case 14:
            case 15:
                voice();
                break;
            case 16:
                if (below(4) == 0) {
                    due("rest()", sheets.rest(), model.rest());
                }
                break;
            case 17:
                fullFigure(someChord(), below(14) - 1);
                break;
            default:
                counts();
        }
    }

    private void feedAny(int n, long bytes) {
        due("feed(" + n + ", " + bytes + ")", sheets.feed(n, bytes), model.feed(n, bytes));
    }

    private void feedName() {
        StringBuilder name = new StringBuilder();
        name.append("CDEFGAB".charAt(below(7)));
        name.append(new String[] {"", "", "", "b", "#", "bb", "##"}[below(7)]);
        name.append(new String[] {"", "", "m", "-", "dim", "o", "aug", "+", "5"}[below(9)]);
        name.append(below(3) == 0 ? "" : PARTS[7 + below(14)]);
        for (int changes = below(6); changes > 0; changes--) {
            name.append(below(12) == 0 ? PARTS[below(PARTS.length)] : PARTS[CHANGE_FROM + below(CHANGE_TO - CHANGE_FROM)]);
        }
        if (below(3) == 0) {
            name.append('/').append("CDEFGABH".charAt(below(8))).append(new String[] {"", "b", "#", "bb", "##"}[below(5)]);
        }
        if (below(8) == 0) {
            name.deleteCharAt(below(name.length()));
        }
        for (int i = 0; i < name.length(); i++) {
            feedAny(1, name.charAt(i) | (long) random.nextInt() << 8);
        }
        due("chord() of " + name, sheets.chord(), model.chord());
    }

    private void allOf(int chord) {
        for (int what = -1; what <= 7; what++) {
            due("of(" + chord + ", " + what + ")", sheets.of(chord, what), model.of(chord, what));
        }
    }

    private void allSteps(int chord) {
        for (int i = -2; i <= 11; i++) {
            for (int what = -1; what <= 5; what++) {
                due("step(" + chord + ", " + i + ", " + what + ")", sheets.step(chord, i, what), model.step(chord, i, what));
            }
        }
    }

    private void shown(String call) {
        for (int i = -1; i <= 13; i++) {
            due("shown(" + i + ") after " + call, sheets.shown(i), model.shown(i));
        }
    }

    private void oneChord() {
        int chord = someChord();
        due("write(" + chord + ")", sheets.write(chord), model.write(chord));
        shown("write(" + chord + ")");
        due("normal(" + chord + ")", sheets.normal(chord), model.normal(chord));
        shown("normal(" + chord + ")");
        int moved = someChord();
        int by = below(3) == 0 ? random.nextInt() : below(25) - 12;
        due("move(" + moved + ", " + by + ")", sheets.move(moved, by), model.move(moved, by));
    }

    private void names() {
        int set = below(4) == 0 ? below(4100) - 1 : Math.max(0, model.of(someChord(), 3));
        int bass = below(14) - 1;
        names(set, bass);
    }

    private void names(int set, int bass) {
        due("named(" + set + ", " + bass + ")", sheets.named(set, bass), model.named(set, bass));
        for (int i = -1; i <= model.count(1); i++) {
            due("name(" + i + ") of named(" + set + ", " + bass + ")", sheets.name(i), model.name(i));
            shown("name(" + i + ") of named(" + set + ", " + bass + ")");
        }
    }

    private static void everySet() {
        for (int set = 1; set <= 4095; set++) {
            for (int bass = 0; bass < 12; bass++) {
                new ModelTest(0).names(set, bass);
            }
        }
    }

    private void voice() {
        int chord = someChord();
        int low = below(30) == 0 ? below(400) - 200 : below(128);
        if (model.count(4) > 0 && below(3) > 0) {
            low = model.key(0) + below(25) - 12;
        }
        // Ranges in which the model's search through everything stays short.
        int widest = Integer.bitCount(Math.max(0, model.of(chord, 3))) > 7 ? 24 : 38;
        int high = low + below(widest + 2) - 1;
        due("voice(" + chord + ", " + low + ", " + high + ")", sheets.voice(chord, low, high), model.voice(chord, low, high));
        for (int i = -1; i <= 12; i++) {
            due("key(" + i + ") of voice(" + chord + ", " + low + ", " + high + ")", sheets.key(i), model.key(i));
        }
    }

    private void fullFigure(int chord, int key) {
        due("figure(" + chord + ", " + key + ")", sheets.figure(chord, key), model.figure(chord, key));
        shown("figure(" + chord + ", " + key + ")");
    }

    private void counts() {
        for (int what = -1; what <= 5; what++) {
            due("count(" + what + ")", sheets.count(what), model.count(what));
        }
    }
}
