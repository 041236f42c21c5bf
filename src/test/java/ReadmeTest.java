import java.io.IOException;
import java.lang.reflect.Method;
import java.lang.reflect.Modifier;
import java.nio.file.Files;
import java.nio.file.Path;
import java.util.List;
import java.util.stream.Stream;

/** What README.md tells holds; run from the project's folder. */
public final class ReadmeTest {
    public static void main(String[] args) throws IOException {
        Check check = new Check("ReadmeTest");
        String text = Files.readString(Path.of("README.md"));
        theExample(check, text);
        everyCallIsNamed(check, text);
        everyTestIsNamed(check, text);
        check.due("tells how to run the tests", text.contains("\n.ci/run\n"), true);
        check.end();
    }

    private static void theExample(Check check, String text) {
        BlockSound sound = new BlockSound();
        sound.settings(2, 32);
        sound.sample(100);
        sound.sample(-100);
        told(check, text, "int size = sound.write();", sound.write() + " bytes");
        told(check, text, "int first = sound.at(0);", "" + sound.at(0));
        sound.take();
        told(check, text, "int samples = sound.read();", "" + sound.read());
        told(check, text, "int left = sound.value(0);", "" + sound.value(0));
        told(check, text, "boolean same = sound.same();", "" + sound.same());
        sound.feed(83);
        told(check, text, "int wrong = sound.read();", sound.read() + ": the stream ends too early, at bit 8");
    }

    private static void told(Check check, String text, String call, String comment) {
        boolean stands = text.lines().anyMatch(line -> line.startsWith(call) && line.endsWith(" // " + comment));
        check.due(call + " // " + comment, stands, true);
    }

    private static void everyCallIsNamed(Check check, String text) {
        for (Method m : BlockSound.class.getDeclaredMethods()) {
            boolean isPublic = Modifier.isPublic(m.getModifiers());
            check.due(m.getName() + " is named", !isPublic || text.contains("| `" + m.getName() + "("), true);
        }
    }

    private static void everyTestIsNamed(Check check, String text) throws IOException {
        try (Stream<Path> files = Files.list(Path.of("src/test/java"))) {
            List<String> names = files.map(file -> file.getFileName().toString().replace(".java", "")).toList();
            for (String name : names) {
                // The thirteen of the promises stand in one row, from the first to the last.
                boolean due = name.endsWith("Test") && !name.startsWith("Promise");
                check.due(name + " is named", !due || text.contains("`" + name + "`"), true);
            }
        }
    }
}
