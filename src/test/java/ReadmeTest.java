import java.io.IOException;
import java.lang.reflect.Method;
import java.nio.file.Files;
import java.nio.file.Path;
import java.util.List;

/** README.md: its example is the one that is done here, and its table names every method. Runs in the project's root. */
public final class ReadmeTest {
    private static final Check CHECK = new Check();

    public static void main(String[] args) throws IOException {
        example();
        exampleIsTheReadmes();
        everyMethodIsNamed();
        CHECK.end();
    }

    private static void example() {
        WordGuest x = new WordGuest();
        // place 0: 012700 5 (move 5 to register 0), 005200 (one more), 010037 4094 (move it to 4094), HALT
        x.load(0, 0x15C00005, 0x0A80101F, 0x0FFE0000, 0, 0);
        int ending = x.run(100);    // 1: HALT
        int done = x.steps();       // 4: HALT is done, too
        int six = x.register(0);    // 6
        int told = x.output(0);     // 6: what was written at 4094
        CHECK.same("ending", ending, 1);
        CHECK.same("done", done, 4);
        CHECK.same("six", six, 6);
        CHECK.same("told", told, 6);
        int[] words = {012700, 5, 005200, 010037, 4094, 0};
        for (int i = 0; i < words.length; i++) {
            CHECK.same("word " + i, x.word(2 * i), words[i]);
        }
    }

    private static void exampleIsTheReadmes() throws IOException {
        String own = Files.readString(Path.of("src/test/java/ReadmeTest.java"));
        List<String> readme = Files.readAllLines(Path.of("README.md"));
        int from = readme.indexOf("```java") + 1;
        CHECK.same("there is an example", from > 0, true);
        for (int i = from; i < readme.size() && !readme.get(i).equals("```"); i++) {
            CHECK.same("done here: " + readme.get(i), own.contains(readme.get(i)), true);
        }
    }

    private static void everyMethodIsNamed() throws IOException {
        String readme = Files.readString(Path.of("README.md"));
        for (Method m : WordGuest.class.getMethods()) {
            if (m.getDeclaringClass() == WordGuest.class) {
                String start = "| `" + m.getReturnType().getName() + " " + m.getName() + "(";
                CHECK.same("named: " + m.getName(), readme.contains(start), true);
                for (Class<?> e : m.getExceptionTypes()) {
                    String row = readme.substring(readme.indexOf(start)).lines().findFirst().orElse("");
                    CHECK.same("named: what " + m.getName() + " throws", row.contains(e.getSimpleName()), true);
                }
            }
        }
    }
}
