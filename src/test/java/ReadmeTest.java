import java.io.IOException;
import java.nio.file.Files;
import java.nio.file.Path;
import java.util.ArrayList;
import java.util.HashSet;
import java.util.List;
import java.util.Set;

/** README.md says how to use the class and how to run its tests: its lines answer what stands behind them. */
public final class ReadmeTest {
    private static final Check CHECK = new Check("ReadmeTest");
    private static final Path README = Path.of("README.md");

    /** A line of README.md that has been run. */
    private static final Set<String> RUN = new HashSet<>();

    public static void main(String[] args) throws IOException {
        HotTranslator guest = new HotTranslator();
        firstUse(guest);
        whatTheTranslatorDid(guest);
        interruptAndWrite(guest);
        eachLineWasRun();
        eachTestIsNamed();
        CHECK.end();
    }

    /** The line answers this, and README.md says so. */
    private static void line(String line, Object got, Object want) throws IOException {
        CHECK.due(line, got, want);
        String sign = want instanceof Character ? "'" + want + "'" : want instanceof Float ? want + "f" : want.toString();
        String text = silent(line);
        CHECK.due("README.md tells the answer of " + line, text.startsWith("answers " + sign), true);
    }

    /** Notes a line as run, and tells what stands behind it. */
    private static String silent(String line) throws IOException {
        String behind = "no such line";
        for (String text : Files.readAllLines(README)) {
            if (text.startsWith(line + ";") && RUN.add(text)) {
                int comment = text.indexOf("// ");
                behind = comment < 0 ? "" : text.substring(comment + 3);
                break;
            }
        }
        CHECK.due("README.md has the line " + line, behind.equals("no such line"), false);
        return behind;
    }

    private static void firstUse(HotTranslator guest) throws IOException {
        silent("HotTranslator guest = new HotTranslator()");
        silent("guest.poke(0, 0x31)");
        guest.poke(0, 0x31);
        silent("guest.poke(1, 0x90)");
        guest.poke(1, 0x90);
        silent("guest.poke(2, 0xFD)");
        guest.poke(2, 0xFD);
        silent("guest.setRegister(1, 2)");
        guest.setRegister(1, 2);
        silent("guest.setTier(2)");
        guest.setTier(2);
        line("guest.run(100)", guest.run(100), 100);
        line("guest.register(0)", guest.register(0), 100);
        line("guest.place()", guest.place(), 0);
        line("guest.state()", guest.state(), 'r');
    }

    private static void whatTheTranslatorDid(HotTranslator guest) throws IOException {
        line("guest.blocks()", guest.blocks(), 1);
        line("guest.blockAt(0)", guest.blockAt(0), 0);
        line("guest.lengthOf(0)", guest.lengthOf(0), 2);
        line("guest.entries(0)", guest.entries(0), 50);
        line("guest.linkOf(0, true)", guest.linkOf(0, true), 0);
        line("guest.chained()", guest.chained(), 48);
        line("guest.chainShare()", guest.chainShare(), 0.96f);
        line("guest.isSameBy(0, 200)", guest.isSameBy(0, 200), true);
    }

    private static void interruptAndWrite(HotTranslator guest) throws IOException {
        silent("guest.poke(40, 0x00)");
        CHECK.due("the value before", guest.poke(40, 0x00), 0);
        silent("guest.setRegister(3, 256)");
        guest.setRegister(3, 256);
        line("guest.interrupt(40)", guest.interrupt(40), -1);
        line("guest.run(500)", guest.run(500), 1);
        line("guest.peek(254)", guest.peek(254), 0);
        silent("guest.poke(1, 0x00)");
        guest.poke(1, 0x00);
        line("guest.isKept(0)", guest.isKept(0), false);
        line("guest.goTo(0)", guest.goTo(0), 41);
        line("guest.run(500)", guest.run(500), 2);
    }

    private static void eachLineWasRun() throws IOException {
        for (String text : Files.readAllLines(README)) {
            if (text.startsWith("guest.") || text.startsWith("HotTranslator ")) {
                CHECK.due("run: " + text, RUN.contains(text), true);
            }
        }
    }

    private static void eachTestIsNamed() throws IOException {
        String text = Files.readString(README);
        List<Path> files = new ArrayList<>();
        try (var stream = Files.list(Path.of("src/test/java"))) {
            stream.filter(file -> file.toString().endsWith("Test.java")).forEach(files::add);
        }
        CHECK.due("there are tests", files.isEmpty(), false);
        for (Path file : files) {
            String name = file.getFileName().toString().replace(".java", "");
            CHECK.due("README.md names " + name, text.contains("- `" + name + "`: "), true);
        }
        CHECK.due("README.md names the script", text.contains("`.ci/run`"), true);
    }
}
