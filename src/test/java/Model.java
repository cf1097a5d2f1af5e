import java.util.ArrayList;
import java.util.Arrays;
import java.util.Comparator;
import java.util.List;
import java.util.TreeSet;

/**
 * The document once more, with lists, texts and searches through everything, so that the program can
 * be compared with it on calls that nobody worked out by hand.
 */
final class Model {
    private static final int BAD = -1, NO = -2, FULL = -3;
    private static final String LETTERS = "CDEFGAB";
    private static final int[] LETTER_PITCHES = {0, 2, 4, 5, 7, 9, 11};
    private static final String[] KINDS = {"m", "-", "dim", "o", "aug", "+", "5"};
    private static final String[] SIZES = {
        "6", "69", "7", "maj7", "M7", "9", "maj9", "M9", "11", "maj11", "M11", "13", "maj13", "M13"};
    private static final String[] CHANGES = {
        "sus2", "sus4", "sus", "b5", "#5", "b9", "#9", "#11", "b13", "add9", "add11", "no3", "no5"};
    private static final String[] BODIES = {
        "", "m", "7", "maj7", "m7", "dim", "dim7", "m7b5", "aug", "sus4", "sus2", "6", "m6", "9", "maj9",
        "m9", "add9", "5", "7sus4", "mmaj7"};
    private static final String[] FIGURES = {
        "I", "bII", "II", "bIII", "III", "IV", "bV", "V", "bVI", "VI", "bVII", "VII"};

    record Note(int letter, int signs) {
        int pitch() {
            return Math.floorMod(LETTER_PITCHES[letter] + signs, 12);
        }

        String text() {
            String sign = signs < 0 ? "b" : "#";
            return LETTERS.charAt(letter) + sign.repeat(Math.abs(signs));
        }
    }

    record Step(int degree, int half) {
        Note on(Note root) {
            int letter = (root.letter + degree - 1) % 7;
            int pitch = (root.pitch() + half) % 12;
            for (int signs = -6; signs <= 5; signs++) {
                if (Math.floorMod(LETTER_PITCHES[letter] + signs, 12) == pitch) {
                    return new Note(letter, signs);
                }
            }
            throw new IllegalStateException();
        }
    }

    record Chord(Note root, List<Step> steps, Note slash) {
        Note bass() {
            return slash == null ? root : slash;
        }

        int weight() {
            int weight = Math.abs(bass().signs);
            for (Step step : steps) {
                weight += Math.abs(step.on(root).signs);
            }
            return weight;
        }

        TreeSet<Integer> pitches() {
            TreeSet<Integer> pitches = new TreeSet<>();
            for (Step step : steps) {
                pitches.add(step.on(root).pitch());
            }
            pitches.add(bass().pitch());
            return pitches;
        }

        int body() {
            for (int i = 0; i < BODIES.length; i++) {
                if (bodySteps(i).equals(steps)) {
                    return i;
                }
            }
            return NO;
        }

        String written() {
            String text = root.text() + (body() == NO ? "?" : BODIES[body()]);
            return bass().pitch() == root.pitch() ? text : text + "/" + bass().text();
        }

        boolean half(int half) {
            return steps.stream().anyMatch(step -> step.half == half);
        }

        boolean degree(int degree) {
            return steps.stream().anyMatch(step -> step.degree == degree);
        }
    }

    /** Thrown with the place of THE FAULT. */
    private static final class Fault extends Exception {
        private static final long serialVersionUID = 1;
        private final int place;

        Fault(int place) {
            this.place = place;
        }
    }

    private static String longest(String text, int at, String[] words) {
        String best = null;
        for (String word : words) {
            if (text.startsWith(word, at) && (best == null || word.length() > best.length())) {
                best = word;
            }
        }
        return best;
    }

    private static Note noteAt(String text, int at) throws Fault {
        if (at >= text.length() || LETTERS.indexOf(text.charAt(at)) < 0) {
            throw new Fault(at);
        }
        String sign = longest(text, at + 1, new String[] {"##", "#", "bb", "b", ""});
        int signs = sign.startsWith("b") ? -sign.length() : sign.length();
        return new Note(LETTERS.indexOf(text.charAt(at)), signs);
    }

    private static Chord parse(String text) throws Fault {
        Note root = noteAt(text, 0);
        int at = root.text().length();
        String kind = longest(text, at, KINDS);
        if (kind == null || kind.equals("m") && text.startsWith("maj", at)) {
            kind = "";
        }
        at += kind.length();
        String size = kind.equals("5") ? null : longest(text, at, SIZES);
        size = size == null ? "" : size;
        at += size.length();
        List<Step> steps = stepsOf(kind, size);
        for (String change = longest(text, at, CHANGES); change != null; change = longest(text, at, CHANGES)) {
            if (!apply(change, steps)) {
                throw new Fault(at);
            }
            at += change.length();
        }
        Note slash = null;
        if (text.startsWith("/", at)) {
            slash = noteAt(text, at + 1);
            at += 1 + slash.text().length();
        }
        if (at < text.length()) {
            throw new Fault(at);
        }
        steps.sort(Comparator.comparingInt(Step::half).thenComparingInt(Step::degree));
        return new Chord(root, steps, slash);
    }

    private static List<Step> stepsOf(String kind, String size) {
        List<Step> steps = new ArrayList<>();
        boolean dim = kind.equals("dim") || kind.equals("o");
        boolean aug = kind.equals("aug") || kind.equals("+");
        boolean minor = dim || kind.equals("m") || kind.equals("-");
        steps.add(new Step(1, 0));
        if (!kind.equals("5")) {
            steps.add(new Step(3, minor ? 3 : 4));
        }
        steps.add(new Step(5, dim ? 6 : aug ? 8 : 7));
        if (size.startsWith("6")) {
            steps.add(new Step(6, 9));
            if (size.equals("69")) {
                steps.add(new Step(9, 14));
            }
        } else if (!size.isEmpty()) {
            boolean major = size.startsWith("M") || size.startsWith("maj");
            int top = Integer.parseInt(size.replaceAll("[^0-9]", ""));
            steps.add(new Step(7, major ? 11 : dim ? 9 : 10));
            if (top >= 9) {
                steps.add(new Step(9, 14));
            }
            if (top >= 11) {
                steps.add(new Step(11, 17));
            }
            if (top >= 13) {
                steps.add(new Step(13, 21));
            }
        }
        return steps;
    }

    private static boolean apply(String change, List<Step> steps) {
        switch (change) {
            case "sus2":
                return takeDegree(steps, 3) && steps.add(new Step(2, 2));
            case "sus4":
            case "sus":
                return takeDegree(steps, 3) && steps.add(new Step(4, 5));
            case "b5":
                return !steps.contains(new Step(5, 6)) && takeDegree(steps, 5) && steps.add(new Step(5, 6));
            case "#5":
                return !steps.contains(new Step(5, 8)) && takeDegree(steps, 5) && steps.add(new Step(5, 8));
            case "b9":
                return swap(steps, new Step(9, 14), new Step(9, 13));
            case "#9":
                return swap(steps, new Step(9, 14), new Step(9, 15));
            case "#11":
                return swap(steps, new Step(11, 17), new Step(11, 18));
            case "b13":
                return swap(steps, new Step(13, 21), new Step(13, 20));
            case "add9":
                return swap(steps, null, new Step(9, 14));
            case "add11":
                return swap(steps, null, new Step(11, 17));
            case "no3":
                return takeDegree(steps, 3);
            default:
                return takeDegree(steps, 5);
        }
    }

    private static boolean takeDegree(List<Step> steps, int degree) {
        return steps.removeIf(step -> step.degree == degree);
    }

    private static boolean swap(List<Step> steps, Step goes, Step comes) {
        if (steps.contains(comes)) {
            return false;
        }
        steps.remove(goes);
        return steps.add(comes);
    }

    private static final List<List<Step>> BODY_STEPS = readBodies();

    private static List<List<Step>> readBodies() {
        List<List<Step>> all = new ArrayList<>();
        for (String body : BODIES) {
            try {
                all.add(parse("C" + body).steps);
            } catch (Fault fault) {
                throw new IllegalStateException(fault);
            }
        }
        return all;
    }

    private static List<Step> bodySteps(int body) {
        return BODY_STEPS.get(body);
    }

    private static List<Note> notesOf(int pitch) {
        List<Note> notes = new ArrayList<>();
        for (int signs = -1; signs <= 1; signs++) {
            for (int letter = 0; letter < 7; letter++) {
                if (new Note(letter, signs).pitch() == pitch) {
                    notes.add(new Note(letter, signs));
                }
            }
        }
        return notes;
    }

    private static Note spelt(int pitch, int body) {
        return moved(new Chord(new Note(0, 0), bodySteps(body), null), pitch).root;
    }

    private static Chord moved(Chord chord, int by) {
        List<Chord> all = new ArrayList<>();
        for (Note root : notesOf(Math.floorMod(chord.root.pitch() + Math.floorMod(by, 12), 12))) {
            if (chord.slash == null) {
                all.add(new Chord(root, chord.steps, null));
                continue;
            }
            for (Note bass : notesOf(Math.floorMod(chord.slash.pitch() + Math.floorMod(by, 12), 12))) {
                all.add(new Chord(root, chord.steps, bass));
            }
        }
        return all.stream().min(Comparator.comparingInt(Chord::weight)
            .thenComparingInt(c -> c.root.signs).thenComparingInt(c -> c.bass().signs)).orElseThrow();
    }

    private static List<String> allNames(TreeSet<Integer> set, int bass) {
        List<String> names = new ArrayList<>();
        for (int up = 0; up < 12; up++) {
            int root = (bass + up) % 12;
            for (int body = 0; body < BODIES.length; body++) {
                Chord plain = new Chord(spelt(root, body), bodySteps(body), null);
                Chord slashed = new Chord(plain.root, plain.steps, spelt(bass, 0));
                if (plain.pitches().equals(set) || root != bass && slashed.pitches().equals(set)) {
                    names.add(root == bass ? plain.written() : slashed.written());
                }
            }
        }
        return names;
    }

    private final StringBuilder tape = new StringBuilder();
    private final List<Chord> chords = new ArrayList<>();
    private List<String> found = new ArrayList<>();
    private int[] voicing = {};
    private String shown = "";

    private boolean isChord(int chord) {
        return chord >= 0 && chord < chords.size();
    }

    private int keep(Chord chord) {
        if (chords.size() == 100) {
            return FULL;
        }
        chords.add(chord);
        return chords.size() - 1;
    }

    private int show(String text) {
        shown = text;
        return text.length();
    }

    int feed(int n, long bytes) {
        if (n < 1 || n > 8) {
            return BAD;
        }
        if (tape.length() + n > 40) {
            return FULL;
        }
        for (int i = 0; i < n; i++) {
            tape.append((char) (bytes >> 8 * i & 255));
        }
        return tape.length();
    }

    int chord() {
        String text = tape.toString();
        tape.setLength(0);
        try {
            return keep(parse(text));
        } catch (Fault fault) {
            return -10 - fault.place;
        }
    }

    int of(int chord, int what) {
        if (!isChord(chord) || what < 0 || what > 6) {
            return BAD;
        }
        Chord c = chords.get(chord);
        int set = 0;
        for (int pitch : c.pitches()) {
            set += 1 << pitch;
        }
        int[] all = {c.root.pitch(), c.bass().pitch(), c.steps.size(), set, c.weight(), c.body(),
            c.slash == null ? 0 : 1};
        return all[what];
    }

    int step(int chord, int i, int what) {
        if (!isChord(chord) || what < 0 || what > 4) {
            return BAD;
        }
        Chord c = chords.get(chord);
        if (i < -1 || i >= c.steps.size() || i == -1 && what < 2) {
            return BAD;
        }
        Note note = i == -1 ? c.bass() : c.steps.get(i).on(c.root);
        if (what >= 2) {
            return what == 2 ? note.letter : what == 3 ? note.signs : note.pitch();
        }
        return what == 0 ? c.steps.get(i).half : c.steps.get(i).degree;
    }

    int write(int chord) {
        return isChord(chord) ? show(chords.get(chord).written()) : BAD;
    }

    int shown(int i) {
        return i >= 0 && i < shown.length() ? shown.charAt(i) : BAD;
    }

    int named(int set, int bass) {
        if (set < 1 || set > 4095 || bass < 0 || bass > 11 || (set >> bass & 1) == 0) {
            return BAD;
        }
        TreeSet<Integer> pitches = new TreeSet<>();
        for (int pitch = 0; pitch < 12; pitch++) {
            if ((set >> pitch & 1) == 1) {
                pitches.add(pitch);
            }
        }
        found = allNames(pitches, bass);
        return found.size();
    }

    int name(int i) {
        return i >= 0 && i < found.size() ? show(found.get(i)) : BAD;
    }

    int normal(int chord) {
        if (!isChord(chord)) {
            return BAD;
        }
        Chord c = chords.get(chord);
        List<String> names = allNames(c.pitches(), c.bass().pitch());
        return !names.isEmpty() && names.get(0).equals(c.written()) ? 1 : 0;
    }

    int move(int chord, int by) {
        return isChord(chord) ? keep(moved(chords.get(chord), by)) : BAD;
    }

    int voice(int chord, int low, int high) {
        if (!isChord(chord) || low < 0 || low > 127 || high < 0 || high > 127 || high < low || high - low > 36) {
            return BAD;
        }
        Chord c = chords.get(chord);
        List<Integer> pitches = new ArrayList<>(c.pitches());
        pitches.remove((Integer) c.bass().pitch());
        int[] best = null;
        for (int lowest = low; lowest <= high; lowest++) {
            if (lowest % 12 == c.bass().pitch()) {
                int[] keys = new int[pitches.size() + 1];
                keys[0] = lowest;
                best = bestOf(best, keys, pitches, 1, high);
            }
        }
        if (best == null) {
            return NO;
        }
        voicing = best;
        return best.length;
    }

    private int[] bestOf(int[] best, int[] keys, List<Integer> pitches, int at, int high) {
        if (at == keys.length) {
            int[] sorted = keys.clone();
            Arrays.sort(sorted);
            boolean better = best == null || cost(sorted) < cost(best)
                || cost(sorted) == cost(best) && Arrays.compare(sorted, best) < 0;
            return better ? sorted : best;
        }
        for (int key = keys[0] + 1; key <= high; key++) {
            if (key % 12 == pitches.get(at - 1)) {
                keys[at] = key;
                best = bestOf(best, keys, pitches, at + 1, high);
            }
        }
        return best;
    }

    private int cost(int[] keys) {
        int cost = keys[keys.length - 1] - keys[0];
        for (int key : keys) {
            int near = voicing.length == 0 ? 0 : 1000;
            for (int before : voicing) {
                near = Math.min(near, Math.abs(key - before));
            }
            cost += near;
        }
        return cost;
    }

    int key(int i) {
        return i >= 0 && i < voicing.length ? voicing[i] : BAD;
    }

    int rest() {
        int had = voicing.length;
        voicing = new int[0];
        return had;
    }

    int figure(int chord, int key) {
        if (!isChord(chord) || key < 0 || key > 11) {
            return BAD;
        }
        Chord c = chords.get(chord);
        String text = FIGURES[Math.floorMod(c.root.pitch() - key, 12)];
        if (c.half(3) && !c.half(4)) {
            text = text.toLowerCase();
        }
        text += c.half(3) && c.half(6) && !c.half(7) ? "o" : "";
        text += c.half(4) && c.half(8) && !c.half(7) ? "+" : "";
        int degree = 0;
        for (Step step : c.steps) {
            if (degree == 0 && step.on(c.root).pitch() == c.bass().pitch()) {
                degree = step.degree;
            }
        }
        boolean seventh = c.degree(7);
        if (degree == 1) {
            text += seventh ? "7" : "";
        } else if (degree == 3) {
            text += seventh ? "65" : "6";
        } else if (degree == 5) {
            text += seventh ? "43" : "64";
        } else if (degree == 7) {
            text += "42";
        } else {
            text += (seventh ? "7/" : "/") + FIGURES[Math.floorMod(c.bass().pitch() - key, 12)];
        }
        return show(text);
    }

    int count(int what) {
        if (what < 0 || what > 4) {
            return BAD;
        }
        return new int[] {chords.size(), found.size(), tape.length(), shown.length(), voicing.length}[what];
    }
}
