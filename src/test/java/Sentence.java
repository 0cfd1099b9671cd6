import java.io.IOException;
import java.nio.file.Files;
import java.nio.file.Path;
import java.util.ArrayList;
import java.util.List;
import java.util.TreeSet;
import java.util.function.Consumer;

/** Sentences of the document that name a boundary case, each with a test of its own. */
final class Sentence {
    private static final Path DOCUMENT = Path.of("../shared/DOC.md");
    private static final TreeSet<Integer> PROMISES = new TreeSet<>();
    private static final List<String> BROKEN = new ArrayList<>();
    private static String document = null;
    private static int held = 0;

    private Sentence() {
    }

    /** The promise that the sentence belongs to, or that uses the word in capitals that it explains; its words. */
    static void holds(int promise, String words, Consumer<Run> test) {
        PROMISES.add(promise);
        Run run = new Run();
        try {
            test.accept(run);
        } catch (IllegalStateException e) {
            run.wrong().add(e.getMessage());
        }
        List<String> wrong = run.wrong();
        if (!isInDocument(words)) {
            wrong.add("the document has no such words");
        }
        if (run.callsMade() == 0) {
            wrong.add("nothing was asked");
        }
        String title = "promise " + promise + ", \"" + words + "\": ";
        for (String one : wrong) {
            System.out.println(title + one);
        }
        held += wrong.isEmpty() ? 1 : 0;
        if (!wrong.isEmpty()) {
            BROKEN.add(title + wrong.get(0));
        }
    }

    private static boolean isInDocument(String words) {
        if (document == null) {
            try {
                document = Files.isReadable(DOCUMENT) ? Files.readString(DOCUMENT).replaceAll("\\s+", " ") : "";
            } catch (IOException e) {
                document = "";
            }
        }
        return document.isEmpty() || document.contains(words.replaceAll("\\s+", " "));
    }

    static List<String> broken() {
        return BROKEN;
    }

    /** Ends the test: each promise of these must have had a sentence, but for those that have none to be tested. */
    static void end(int firstPromise, int lastPromise, Integer... without) {
        boolean fine = BROKEN.isEmpty();
        for (int promise = firstPromise; promise <= lastPromise; promise++) {
            if (!PROMISES.contains(promise) && !List.of(without).contains(promise)) {
                System.out.println("promise " + promise + " has no sentence with a test");
                fine = false;
            }
        }
        System.out.println(held + " sentences hold, " + BROKEN.size() + " do not");
        if (!fine) {
            System.exit(1);
        }
    }
}
