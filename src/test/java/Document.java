import java.io.IOException;
import java.nio.file.Files;
import java.nio.file.Path;
import java.util.ArrayList;
import java.util.Comparator;
import java.util.LinkedHashSet;
import java.util.List;
import java.util.Set;

/**
 * The sentences of the document that DocumentTest and PromisesTest quote, each for the bench that tests it.
 * By hand, "java Document ../shared/DOC.md" tells which words of the document no test quotes, and which quotes
 * are not in it; .ci/run does not, so that a new wording of the document refuses nothing that still holds.
 */
final class Document {
    private static final Set<String> QUOTED = new LinkedHashSet<>();

    private Document() {}

    static Bench says(String sentence) {
        QUOTED.add(sentence);
        return new Bench("\"" + sentence + "\"");
    }

    public static void main(String[] args) throws IOException {
        DocumentTest.main(args);
        PromisesTest.main(args);
        String rest = Files.readString(Path.of(args[0])).replaceAll("\\s+", " ");
        // A short sentence may be a part of a longer one, so the long ones are taken out first.
        List<String> quotes = new ArrayList<>(QUOTED);
        quotes.sort(Comparator.comparingInt(String::length).reversed());
        for (String quote : quotes) {
            if (!rest.contains(quote)) {
                System.out.println("not in the document: " + quote);
            }
            rest = rest.replace(quote, "\n");
        }
        rest.lines().filter(line -> !line.isBlank()).forEach(line -> System.out.println("not quoted: " + line.trim()));
    }
}
