import java.nio.file.Files;
import java.nio.file.Path;
import java.util.List;

/** Each sentence of the document that names a boundary has a test of its own, and each test names its sentence. */
public final class EdgeTests {
    private EdgeTests() {
    }

    public static void main(String[] arguments) throws Exception {
        CalendarEdges.all();
        LeafEdges.all();
        YearEdges.all();
        FeastEdges.all();
        DayEdges.all();
        AskedEdges.all();
        HouseEdges.all();
        String document = Files.readString(Path.of("../shared/DOC.md"));
        for (int promise = 0; promise <= 56; promise++) {
            testsQuote(promise, partOf(document, promise));
            isQuoted(promise, partOf(document, promise));
        }
        Checks.end("EdgeTests");
    }

    private static String partOf(String document, int promise) {
        String head = promise == 0 ? "## Description\n" : "## Promise " + promise + ":";
        String next = promise == 56 ? "\n## Not promised" : "\n## Promise " + (promise + 1) + ":";
        return document.substring(document.indexOf(head), document.indexOf(next));
    }

    private static List<String> wordsOf(int promise) {
        return Edges.words().getOrDefault(promise, List.of());
    }

    private static void testsQuote(int promise, String part) {
        for (String words : wordsOf(promise)) {
            Checks.due("promise " + promise + ": whether the document says '" + words + "'", true,
                part.contains(words));
        }
    }

    /** Each line has a test, but for the signature and the places, of which the Throws lines speak. */
    private static void isQuoted(int promise, String part) {
        for (String line : part.split("\n")) {
            boolean isTested = wordsOf(promise).stream().anyMatch(line::contains);
            Checks.due("promise " + promise + ": a test of '" + line + "'", true, !isSentence(line) || isTested);
        }
    }

    private static boolean isSentence(String line) {
        boolean isHead = line.startsWith("#") || line.startsWith("`") || line.startsWith("--") || line.startsWith("==");
        boolean isOfPlace = line.contains("`: the place of a");
        return !line.isEmpty() && !isHead && !isOfPlace && !line.startsWith("The constructor and the methods follow");
    }
}
