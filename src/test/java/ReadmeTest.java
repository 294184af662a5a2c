import java.nio.file.Files;
import java.nio.file.Path;

/** The examples of README.md: they stand here line by line, and answer what is said there. */
final class ReadmeTest {
    private static final String SELF = "src/test/java/ReadmeTest.java";

    public static void main(String[] args) throws Exception {
        examples();
        linesStandHere(Files.readString(Path.of("README.md")), Files.readString(Path.of(SELF)));
        Check.end();
    }

    private static void examples() {
        GlyphCompiler x = new GlyphCompiler();
        // x0 = 3 ; show 2 x0 ;
        int[][] program = {{1, 0}, {4, 2}, {0, 48}, {4, 6}, {4, 12}, {0, 32}, {1, 0}, {4, 6}};
        for (int[] token : program) {
            x.feed(token[0], token[1]);
        }
        int error = x.run();      // OK, or an error whose place x.place() tells
        long six = x.shown(0);    // 6 in 65536ths: 393216
        Check.due("run()", error, GlyphCompiler.OK);
        Check.due("place()", x.place(), program.length);
        Check.due("shown(0)", six, 393216);

        // Macro 0 with two parameters: line ( $0 , $1 )
        int[][] body = {{4, 8}, {4, 3}, {2, 0}, {4, 5}, {2, 1}, {4, 4}};
        for (int[] token : body) {
            x.feed(token[0], token[1]);
        }
        x.macro(0, 2);
        Check.due("count(9)", x.count(9), body.length);
        // fill ( 2 , 3 ) @0 ( 6 , 3 ) @0 ( x0 , 5 ) line cycle ;
        int[][] glyph = {
            {4, 10}, {4, 3}, {0, 32}, {4, 5}, {0, 48}, {4, 4},
            {3, 0}, {4, 3}, {0, 96}, {4, 5}, {0, 48}, {4, 4},
            {3, 0}, {4, 3}, {1, 0}, {4, 5}, {0, 80}, {4, 4},
            {4, 8}, {4, 9}, {4, 6}};
        for (int[] token : glyph) {
            x.feed(token[0], token[1]);
        }
        x.run();
        int points = x.count(1);        // 4 black points
        boolean there = x.black(3, 4);  // true
        Check.due("place()", x.place(), glyph.length);
        Check.due("count(1)", points, 4);
        Check.due("black(3, 4)", there, true);
    }

    private static void linesStandHere(String readme, String self) {
        String[] parts = readme.split("```java\n|```\n");
        Check.due("parts of README.md", parts.length, 5);
        int from = 0;
        for (int example = 1; example < parts.length; example += 2) {
            for (String line : parts[example].split("\n")) {
                int found = self.indexOf(line.trim(), from);
                Check.due("README.md's line stands here: " + line, found >= from, true);
                from = Math.max(from, found);
            }
        }
    }
}
