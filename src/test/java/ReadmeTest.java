import java.io.ByteArrayOutputStream;
import java.io.IOException;
import java.io.PrintStream;
import java.nio.charset.StandardCharsets;
import java.nio.file.Files;
import java.nio.file.Path;
import java.util.ArrayList;
import java.util.List;

/** The example of README.md: it stands below word by word, and prints what README.md says. */
public final class ReadmeTest {
    private static final Path README = Path.of("README.md");
    private static final Path THIS = Path.of("src", "test", "java", "ReadmeTest.java");

    private ReadmeTest() {
    }

    public static void main(String[] args) throws IOException {
        List<String> told = between(README, "```java", "```");
        List<String> run = between(THIS, "// README.md has this:", "// README.md has no more.");
        Check.same("whether README.md has an example", told.isEmpty() ? 0 : 1, 1);
        Check.same("how many lines the example has", told.size(), run.size());
        for (int k = 0; k < told.size() && k < run.size(); k++) {
            Check.same("whether this is run: " + told.get(k), told.get(k).equals(run.get(k)) ? 1 : 0, 1);
        }
        List<String> due = between(README, "```text", "```");
        List<String> printed = printedByExample();
        Check.same("whether " + printed + " is printed as " + due, printed.equals(due) ? 1 : 0, 1);
        Check.finish();
    }

    /** The lines behind the first one that is this mark, up to the next other mark, without margins. */
    private static List<String> between(Path file, String from, String to) throws IOException {
        List<String> found = new ArrayList<>();
        boolean inside = false;
        for (String line : Files.readAllLines(file, StandardCharsets.UTF_8)) {
            String words = line.strip();
            if (inside && words.equals(to)) {
                return found;
            }
            if (inside) {
                found.add(words);
            }
            inside = inside || words.equals(from);
        }
        return new ArrayList<>();
    }

    private static List<String> printedByExample() {
        PrintStream before = System.out;
        ByteArrayOutputStream printed = new ByteArrayOutputStream();
        System.setOut(new PrintStream(printed, true, StandardCharsets.UTF_8));
        try {
            example();
        } finally {
            System.setOut(before);
        }
        return printed.toString(StandardCharsets.UTF_8).strip().lines().toList();
    }

    private static void example() {
        // README.md has this:
        int[] section = {
            13, 0, 0, 0,  255, 255, 255, 255,  // at 0: 13 bytes follow, a common entry
            1,  1, 0x7C, 6,                    // code factor 1, data factor -4, return register 6
            12, 7, 4,                          // CFA is register 7 and 4 more
            0x86, 1,                           // register 6 is the word at CFA - 4
            17, 0, 0, 0,  0, 0, 0, 0,          // at 17: 17 bytes follow, a frame entry of the one at 0
            10, 0, 0, 0,  30, 0, 0, 0,         // it has the places 10 .. 39
            0x44,                              // from 14 on:
            14, 12,                            // CFA is register 7 and 12 more
            0x85, 2,                           // register 5 is the word at CFA - 8
        };

        FrameUnwinder x = new FrameUnwinder();
        for (int k = 0; k < section.length; k += 4) {
            int four = 0;
            for (int j = 0; j < 4 && k + j < section.length; j++) {
                four |= section[k + j] << (8 * j);
            }
            x.feed(four);                      // four bytes, the lowest first
        }
        x.end(section.length);                 // cuts off what filled up the last four
        System.out.println("fault " + x.fault() + ", entries " + x.entries() + ", find " + x.find(15));
        System.out.println("CFA at 15: register " + x.row(15, -1, 2) + " and " + x.row(15, -1, 1));

        x.register(7, 96);                     // the first frame: registers, memory, pc
        x.word(100, 1234);
        x.word(104, 21);
        x.word(112, 5678);
        x.word(116, 77);
        x.start(15);
        int answer = x.unwind(100);
        for (int k = 0; k < 20 && answer == 0; k++) {
            System.out.println("caller " + x.get(10) + ": pc " + x.get(8) + ", register 5 " + x.get(5));
            answer = x.unwind(100);
        }
        System.out.println("ended with " + answer);
        // README.md has no more.
    }
}
