import java.io.IOException;
import java.nio.file.Files;
import java.nio.file.Path;
import java.util.regex.Matcher;
import java.util.regex.Pattern;

/** The stories of README.md, and that README.md tells their calls and answers as they are here. */
final class ReadmeTest {
    private static final Path README = Path.of("README.md");
    private static final Path SELF = Path.of("src/test/java/ReadmeTest.java");
    /** A call, and the answer with which the words behind it begin, if they do. */
    private static final Pattern LINE = Pattern.compile("^([^/]*\\));(?: *// (-?\\d+)?)?");

    private ReadmeTest() { }

    public static void main(String[] args) throws IOException {
        toldAlike();
        StoryClasses story = new StoryClasses();
        guarded(story);
        withLastPart(story);
        Due.end();
    }

    private static void guarded(StoryClasses story) {
        Due.says("What it is", "Stories as routines over rows of memory and things of kinds that "
            + "inherit, run step by step: what the machine refuses are the story's faults, "
            + "against which routines are guarded");
        int quotient = story.routine(2);
        story.op(quotient, 1, 0, 0);
        story.op(quotient, 1, 1, 0);
        story.op(quotient, 6, 0, 0);
        story.op(quotient, 20, 0, 0);
        story.op(quotient, 26, 0, 0);
        story.op(quotient, 20, 0, 0);
        Due.due("guard", story.guard(quotient, 2, 3, 6, 4), 0);
        Due.due("run 7, 2", story.run(quotient, 7, 2), 0);
        Due.due("result", story.result(), 3);
        Due.due("run 7, 0", story.run(quotient, 7, 0), 0);
        Due.due("output", story.output(0), 6);
    }

    private static void withLastPart(StoryClasses story) {
        Due.says("What it is", "with last parts that are done whichever way they end; memory and "
            + "things are kept and brought back.");
        Due.due("row", story.row(0, 4, 3), 3);
        int crate = story.thing(1);
        int packing = story.routine(1);
        story.op(packing, 27, 0, 0);
        story.op(packing, 0, 1, 0);
        story.op(packing, 1, 0, 0);
        story.op(packing, 13, 0, 4);
        story.op(packing, 0, crate, 0);
        story.op(packing, 1, 0, 0);
        story.op(packing, 23, 1, 0);
        story.op(packing, 20, 0, 0);
        story.op(packing, 28, 0, 0);
        story.op(packing, 22, 0, 0);
        Due.due("last", story.last(packing, 8), -1);
        Due.due("run 4", story.run(packing, 4, 0), 0);
        Due.due("result", story.result(), 4);
        Due.due("of", story.of(crate, 1), 0);
        Due.due("item", story.item(0, 1), 0);
        Due.due("run 10", story.run(packing, 10, 0), 1);
        Due.due("told 0", story.told(0), 11);
        Due.due("told 2", story.told(2), 6);
        Due.due("number", story.number(), 50);
        Due.due("told 6", story.told(6), 1);
        Due.due("count", story.count(2, 0), 0);
    }

    /** Each line of README.md's stories stands here, with the answer behind it if one is told. */
    private static void toldAlike() throws IOException {
        String self = Files.readString(SELF);
        String[] parts = Files.readString(README).split("```(java)?\n");
        Due.due("parts of README.md, two of them stories", parts.length, 5);
        int at = 0;
        for (int k = 1; k < parts.length; k += 2) {
            for (String line : parts[k].split("\n+")) {
                String call = inTest(line);
                int found = self.indexOf(call, at);
                Due.holds("behind the line before it stands: " + call, found >= 0);
                at = Math.max(at, found);
            }
        }
    }

    /** How a line of README.md reads in this file. */
    private static String inTest(String line) {
        Matcher m = LINE.matcher(line);
        if (!m.find()) return line;
        return m.group(2) == null ? m.group(1) + ";" : m.group(1) + ", " + m.group(2) + ")";
    }
}
