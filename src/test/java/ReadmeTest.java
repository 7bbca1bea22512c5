import java.io.IOException;
import java.nio.file.Files;
import java.nio.file.Path;
import java.util.ArrayList;
import java.util.List;

/** README.md: each call of its example answers what its comment begins with. */
public final class ReadmeTest {
    private static final String BEGIN = "```java";
    private static final String END = "```";

    private final List<String> example;
    private int next = 0;

    private ReadmeTest(List<String> example) {
        this.example = example;
    }

    public static void main(String[] args) throws IOException {
        new ReadmeTest(exampleOf(Files.readAllLines(Path.of("README.md")))).walk();
        Check.end();
    }

    private static List<String> exampleOf(List<String> readme) {
        List<String> example = new ArrayList<>();
        int first = readme.indexOf(BEGIN) + 1;
        for (int i = first; i < readme.size() && !readme.get(i).equals(END); i++) {
            if (!readme.get(i).isBlank()) {
                example.add(readme.get(i));
            }
        }
        return example;
    }

    /** The example's calls once more, in its order, as a text can't be run. */
    private void walk() {
        WovenRow x = new WovenRow();
        int a = 0;
        int c = 2;
        int d = 3;
        line("WovenRow x = new WovenRow();");
        line("int a = x.insert(0, -1, 10L);", () -> x.insert(0, -1, 10L));
        line("int b = x.insert(1, -1, 20L);", () -> x.insert(1, -1, 20L));
        line("int c = x.insert(0, a, 11L);", () -> x.insert(0, a, 11L));
        line("x.tell(0, 1);", () -> x.tell(0, 1));
        line("x.tell(1, 0);", () -> x.tell(1, 0));
        line("x.same(0, 1);", () -> x.same(0, 1));
        line("x.at(0, 0);", () -> x.at(0, 0));
        line("x.value(x.at(0, 1));", () -> x.value(x.at(0, 1)));
        line("int d = x.delete(1, a);", () -> x.delete(1, a));
        line("x.same(0, 1);", () -> x.same(0, 1));
        line("x.give(0, d);");
        x.give(0, d);
        line("x.count(0, 2);", () -> x.count(0, 2));
        line("x.place(0, c);", () -> x.place(0, c));
        Check.due("the lines of README.md's example", example.size(), () -> next);
    }

    /** A line without an answer: its call's text alone. */
    private String line(String call) {
        String line = next < example.size() ? example.get(next) : "";
        next++;
        Check.due("line " + next + " of README.md's example", call, () -> line.split(" *// ")[0]);
        return line;
    }

    private void line(String call, Check.Call made) {
        String line = line(call);
        String said = line.replaceFirst(".*// ", "").replaceFirst(":.*", "");
        Check.due(call + ", as README.md says", said, made);
    }
}
