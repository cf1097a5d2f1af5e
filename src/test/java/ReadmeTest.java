import java.io.IOException;
import java.nio.file.Files;
import java.nio.file.Path;

/** The example of README.md: its calls answer what stands beside them, and README.md has each of them. */
public final class ReadmeTest {
    private static final Check CHECK = new Check();

    public static void main(String[] args) throws IOException {
        String readme = Files.readString(Path.of("README.md"));
        LeadSheets x = new LeadSheets();
        row(readme, "x.feed(3, 'D' | 'm' << 8 | '7' << 16);", "3", x.feed(3, 'D' | 'm' << 8 | '7' << 16));
        int dm7 = x.chord();
        row(readme, "int dm7 = x.chord();", "0", dm7);
        row(readme, "x.of(dm7, 3);", "549", x.of(dm7, 3));
        row(readme, "x.step(dm7, 1, 2);", "3", x.step(dm7, 1, 2));
        int moved = x.move(dm7, 1);
        row(readme, "int moved = x.move(dm7, 1);", "1", moved);
        row(readme, "x.write(moved);", "4", x.write(moved));
        CHECK.due("x.write(moved)", Check.shown(x), "Ebm7");
        row(readme, "x.shown(0);", "'E'", x.shown(0));
        row(readme, "x.named(145, 4);", "2", x.named(145, 4));
        row(readme, "x.name(0);", "3", x.name(0));
        CHECK.due("x.name(0)", Check.shown(x), "C/E");
        row(readme, "x.normal(dm7);", "1", x.normal(dm7));
        row(readme, "x.voice(dm7, 48, 72);", "4", x.voice(dm7, 48, 72));
        row(readme, "x.key(0);", "50", x.key(0));
        row(readme, "x.rest();", "4", x.rest());
        row(readme, "x.figure(dm7, 0);", "3", x.figure(dm7, 0));
        CHECK.due("x.figure(dm7, 0)", Check.shown(x), "ii7");
        row(readme, "x.count(0);", "2", x.count(0));
        CHECK.end();
    }

    /** A row of the example: its call, blanks, and a remark that begins with the answer. */
    private static void row(String readme, String call, String answer, int got) {
        int start = readme.indexOf("\n" + call + " ");
        String remark = "";
        if (start >= 0) {
            String line = readme.substring(start + 1 + call.length()).split("\n")[0];
            remark = line.strip().replaceFirst("^// ", "").split("[ ,;]")[0];
        }
        CHECK.due("the remark of README.md beside " + call, remark, answer);
        boolean letter = answer.startsWith("'");
        CHECK.due(call, got, letter ? answer.charAt(1) : Integer.parseInt(answer));
    }
}
