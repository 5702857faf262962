import java.io.IOException;
import java.nio.charset.StandardCharsets;
import java.nio.file.Files;
import java.nio.file.Path;

/** What the tests by hand share: games told in letters, answers that are due, and for which words. */
abstract class Checks {
    static final Path DOCUMENT = Path.of("../shared/DOC.md");

    private final String document = read(DOCUMENT);
    private String words = "";
    private int ofTheseWords = 1;
    private int passed = 0;
    private int failed = 0;

    static String read(Path file) {
        try {
            return Files.readString(file, StandardCharsets.UTF_8);
        } catch (IOException e) {
            throw new IllegalStateException(e);
        }
    }

    /** What follows is due by these words of the document, letter by letter. */
    final void sentence(String quoted) {
        if (ofTheseWords == 0) {
            failed++;
            System.out.println("no test of: " + words);
        }
        words = quoted;
        ofTheseWords = 0;
        // The document may change ahead of its tests: that is to be looked at, but breaks nothing.
        if (!document.contains(quoted)) {
            System.out.println("look again, not in DOC.md: " + quoted);
        }
    }

    final void due(String what, long got, long want) {
        ofTheseWords++;
        if (got == want) {
            passed++;
        } else {
            failed++;
            System.out.println("\"" + words + "\": " + what + ": " + got + ", due is " + want);
        }
    }

    final void holds(String what, boolean so) {
        due(what, so ? 1 : 0, 1);
    }

    final void end() {
        sentence("");
        System.out.println(passed + " passed, " + failed + " failed");
        if (failed != 0) {
            System.exit(1);
        }
    }

    static int tell(NineteenSecondsLeft x, String text) {
        for (int i = 0; i < text.length(); i++) {
            x.letter(text.charAt(i));
        }
        return x.hall();
    }

    static NineteenSecondsLeft game(String text) {
        NineteenSecondsLeft x = new NineteenSecondsLeft();
        if (tell(x, text) < 1) {
            throw new IllegalStateException(text);
        }
        return x;
    }

    /** By t tenths the first, else the second, cut. */
    static long mixed(int t, long hit, long miss) {
        return (t * hit + (10 - t) * miss) / 10;
    }
}
