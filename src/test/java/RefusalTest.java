import java.util.function.ToIntFunction;

/**
 * What a call leaves as it is. Two objects are made alike; one of them takes the call, and then all
 * that can be asked of the two must be the same.
 */
public final class RefusalTest {
    private static final int BAD = -1, NO = -2, FULL = -3;
    private static final int LEAST = Integer.MIN_VALUE, MOST = Integer.MAX_VALUE;
    private static final Check CHECK = new Check();

    public static void main(String[] args) {
        feed();
        chordFault();
        chordFull();
        numbersOfChords();
        of();
        step();
        shown();
        named();
        name();
        move();
        voice();
        key();
        figure();
        count();
        newObject();
        whatOnlyAsks();
        whatChangesOnlyItsOwn();
        CHECK.end();
    }

    /** Two chords, a latest voicing, two names, three bytes shown, and a tape. */
    private static LeadSheets filled(String tape) {
        LeadSheets x = new LeadSheets();
        Check.chord(x, "C7/E");
        Check.chord(x, "F#m");
        x.voice(0, 50, 74);
        x.named(657, 0);
        x.write(1);
        Check.feed(x, tape);
        return x;
    }

    private static LeadSheets full(String tape) {
        LeadSheets x = filled("");
        for (int i = 2; i < 100; i++) {
            x.move(1, i);
        }
        Check.feed(x, tape);
        return x;
    }

    /** All that can be asked; what changes the object by it comes last. */
    private static String state(LeadSheets x) {
        StringBuilder all = new StringBuilder();
        for (int what = 0; what <= 4; what++) {
            all.append(x.count(what)).append(what == 4 ? " shown " : " ");
        }
        all.append(Check.shown(x)).append(" keys ").append(Check.keys(x));
        int chords = x.count(0);
        for (int chord : new int[] {0, 1, chords - 1}) {
            all.append(" chord ").append(chord).append(':');
            for (int what = 0; what <= 6; what++) {
                all.append(' ').append(x.of(chord, what));
            }
            for (int what = 2; what <= 4; what++) {
                all.append(' ').append(x.step(chord, -1, what));
            }
        }
        all.append(" names ").append(Check.names(x)).append(" voiced ").append(x.voice(0, 40, 76));
        all.append(": ").append(Check.keys(x));
        all.append(" next ").append(x.feed(1, '2')).append(' ').append(x.chord()).append(' ').append(x.write(chords));
        return all.append(' ').append(Check.shown(x)).append(' ').append(x.rest()).toString();
    }

    private static void same(String label, LeadSheets called, LeadSheets twin, ToIntFunction<LeadSheets> call, int want) {
        CHECK.due(label, call.applyAsInt(called), want);
        CHECK.due(label + " left", state(called), state(twin));
    }

    /** The call answers so, and changes nothing. */
    private static void stays(String label, int want, ToIntFunction<LeadSheets> call) {
        same(label, filled("Gsus"), filled("Gsus"), call, want);
    }

    private static void feed() {
        for (int n : new int[] {0, -1, 9, LEAST, MOST}) {
            stays("2: feed(" + n + ", 67)", BAD, x -> x.feed(n, 67));
        }
        String tape = "Gsus4b5#5b5#5b5#5b5#5b5#5b5#5b5#5b5#5b5";
        for (int n = 2; n <= 8; n++) {
            int bytes = n;
            String most = tape.substring(0, 41 - n);
            same("2: feed(" + n + ", 0) behind " + most.length(), filled(most), filled(most), x -> x.feed(bytes, 0), FULL);
        }
        String forty = tape + "#";
        same("2: feed(1, 53) behind 40", filled(forty), filled(forty), x -> x.feed(1, '5'), FULL);
        same("2: feed(9, 0) behind 40", filled(forty), filled(forty), x -> x.feed(9, 0), BAD);
    }

    /** The tape is empty then, and nothing else has changed. */
    private static void chordFault() {
        same("3: chord() of Gx", filled("Gx"), filled(""), LeadSheets::chord, -11);
        same("3: chord() of Gsussus", filled("Gsussus"), filled(""), LeadSheets::chord, -14);
        same("3: chord() of G/", filled("G/"), filled(""), LeadSheets::chord, -12);
        same("3: chord() of no bytes", filled(""), filled(""), LeadSheets::chord, -10);
    }

    private static void chordFull() {
        same("3: chord() with 100", full("Am/G"), full(""), LeadSheets::chord, FULL);
        same("3: chord() of a FAULT with 100", full("Am/"), full(""), LeadSheets::chord, -13);
        same("11: move(0, 1) with 100", full("Gsus"), full("Gsus"), x -> x.move(0, 1), FULL);
        same("11: move(100, 1) with 100", full("Gsus"), full("Gsus"), x -> x.move(100, 1), BAD);
    }

    private static void numbersOfChords() {
        for (int none : new int[] {-1, 2, 99, 100, LEAST, MOST}) {
            stays("4: of(" + none + ", 0)", BAD, x -> x.of(none, 0));
            stays("5: step(" + none + ", 0, 0)", BAD, x -> x.step(none, 0, 0));
            stays("6: write(" + none + ")", BAD, x -> x.write(none));
            stays("10: normal(" + none + ")", BAD, x -> x.normal(none));
            stays("11: move(" + none + ", 1)", BAD, x -> x.move(none, 1));
            stays("12: voice(" + none + ", 60, 72)", BAD, x -> x.voice(none, 60, 72));
            stays("15: figure(" + none + ", 0)", BAD, x -> x.figure(none, 0));
        }
    }

    private static void of() {
        for (int wrong : new int[] {-1, 7, LEAST, MOST}) {
            stays("4: of(0, " + wrong + ")", BAD, x -> x.of(0, wrong));
        }
    }

    private static void step() {
        for (int wrong : new int[] {-2, 4, LEAST, MOST}) {
            stays("5: step(0, " + wrong + ", 0)", BAD, x -> x.step(0, wrong, 0));
        }
        for (int wrong : new int[] {-1, 5, LEAST, MOST}) {
            stays("5: step(0, 0, " + wrong + ")", BAD, x -> x.step(0, 0, wrong));
        }
        for (int wrong : new int[] {-1, 0, 1, 5}) {
            stays("5: step(0, -1, " + wrong + ")", BAD, x -> x.step(0, -1, wrong));
        }
    }

    private static void shown() {
        for (int wrong : new int[] {-1, 3, LEAST, MOST}) {
            stays("7: shown(" + wrong + ")", BAD, x -> x.shown(wrong));
        }
    }

    private static void named() {
        for (int wrong : new int[] {0, -1, 4096, 4097, LEAST, MOST}) {
            stays("8: named(" + wrong + ", 0)", BAD, x -> x.named(wrong, 0));
        }
        for (int wrong : new int[] {-1, 1, 11, 12, 32, LEAST, MOST}) {
            stays("8: named(145, " + wrong + ")", BAD, x -> x.named(145, wrong));
        }
    }

    private static void name() {
        for (int wrong : new int[] {-1, 2, LEAST, MOST}) {
            stays("9: name(" + wrong + ")", BAD, x -> x.name(wrong));
        }
    }

    /** A refused number of half tones there is not: each of them moves. */
    private static void move() {
        for (int by : new int[] {0, -1, 12, LEAST, MOST}) {
            LeadSheets x = filled("Gsus");
            CHECK.due("11: move(0, " + by + ")", x.move(0, by), 2);
            CHECK.due("11: chords", x.count(0), 3);
            CHECK.due("11: the tape stays", x.count(2), 4);
            CHECK.due("11: what is shown stays", Check.shown(x), "F#m");
            CHECK.due("11: the voicing stays", Check.keys(x), Check.keys(filled("Gsus")));
        }
    }

    private static void voice() {
        stays("12: NO", NO, x -> x.voice(0, 53, 63));
        stays("12: NO of one key", NO, x -> x.voice(0, 60, 60));
        stays("12: high is below low", BAD, x -> x.voice(0, 60, 59));
        stays("12: 37 above", BAD, x -> x.voice(0, 52, 89));
        stays("12: low -1", BAD, x -> x.voice(0, -1, 30));
        stays("12: high 128", BAD, x -> x.voice(0, 100, 128));
        stays("12: the least and the greatest", BAD, x -> x.voice(0, LEAST, MOST));
        stays("12: the greatest and the least", BAD, x -> x.voice(0, MOST, LEAST));
    }

    private static void key() {
        for (int wrong : new int[] {-1, 4, LEAST, MOST}) {
            stays("13: key(" + wrong + ")", BAD, x -> x.key(wrong));
        }
    }

    private static void figure() {
        for (int wrong : new int[] {-1, 12, LEAST, MOST}) {
            stays("15: figure(0, " + wrong + ")", BAD, x -> x.figure(0, wrong));
        }
    }

    private static void count() {
        for (int wrong : new int[] {-1, 5, LEAST, MOST}) {
            stays("16: count(" + wrong + ")", BAD, x -> x.count(wrong));
        }
    }

    /** An object knows nothing of the others. */
    private static void newObject() {
        stays("1: another object", 0, x -> Check.chord(new LeadSheets(), "Bb7/D"));
        stays("1: another object's voicing", 8, x -> full("Am/G").write(0) + full("").rest());
    }

    private static void whatOnlyAsks() {
        stays("4: of(0, 3)", 1169, x -> x.of(0, 3));
        stays("5: step(0, 1, 0)", 4, x -> x.step(0, 1, 0));
        stays("7: shown(0)", 'F', x -> x.shown(0));
        stays("10: normal(0)", 1, x -> x.normal(0));
        stays("10: normal(1)", 1, x -> x.normal(1));
        stays("13: key(0)", 52, x -> x.key(0));
        stays("16: count(0)", 2, x -> x.count(0));
    }

    /** A call that is taken changes only what the document says of it; the twin gets that by itself. */
    private static void whatChangesOnlyItsOwn() {
        LeadSheets x = filled("Gsus");
        x.figure(0, 0);
        x.name(1);
        x.named(145, 4);
        x.rest();
        x.voice(1, 60, 80);
        LeadSheets y = filled("Gsus");
        y.rest();
        y.voice(1, 60, 80);
        y.named(657, 0);
        y.name(1);
        y.named(145, 4);
        CHECK.due("whichever call comes first", state(x), state(y));
        LeadSheets z = filled("");
        z.named(1, 0);
        CHECK.due("8: no names, and what is shown stays", Check.shown(z), "F#m");
        z.rest();
        CHECK.due("14: chords stay", z.count(0), 2);
        CHECK.due("14: what is shown stays", Check.shown(z), "F#m");
        z.write(0);
        CHECK.due("6: the names stay none", z.count(1), 0);
    }
}
