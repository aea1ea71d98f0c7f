import java.io.IOException;
import java.nio.file.Files;
import java.nio.file.Path;
import java.util.Set;
import java.util.TreeSet;
import java.util.regex.Matcher;
import java.util.regex.Pattern;
import java.util.stream.Stream;

/** Each place of the document that names a bound lies in words that one of the bounds tests quotes. */
public final class SentencesTest {
    private static final Checks C = new Checks("SentencesTest");
    private static final Path DOCUMENT = Path.of("../shared/DOC.md");
    private static final Pattern BOUND = Pattern.compile("UNKNOWN|OUTSIDE|STATE|FULL|NONE|at most|at first|rounded down"
            + "|below 0|above|up to and with|from the day|of like ones|wrapping|\\d+ to \\d+|already|too late|too early"
            + "|if none|instead|all that is left|what is left|HOUSE that is not TAKEN|not undone");
    private static final Pattern TEXT = Pattern.compile("\"((?:[^\"\\\\]|\\\\.)*)\"");
    private static final int SHORTEST_QUOTE = 9;

    public static void main(String[] args) throws IOException {
        String promised = promised(Files.readString(DOCUMENT));
        boolean[] isQuoted = quotedPlaces(promised, quotes());
        Matcher bound = BOUND.matcher(promised);
        while (bound.find()) {
            boolean is = isQuoted[bound.start()] && isQuoted[bound.end() - 1];
            C.holds("a test quotes '" + around(promised, bound) + "'", is);
        }
        C.end();
    }

    /** The document without its list of methods and without what it does not promise. */
    private static String promised(String document) {
        String head = document.substring(0, document.indexOf("## The public face"));
        return head + document.substring(document.indexOf("## Terms"), document.indexOf("## Not promised"));
    }

    private static Set<String> quotes() throws IOException {
        Set<String> quotes = new TreeSet<>();
        try (Stream<Path> files = Files.list(Path.of("src/test/java"))) {
            for (Path file : files.filter(f -> f.toString().endsWith("BoundsTest.java")).toList()) {
                Matcher text = TEXT.matcher(Files.readString(file).replaceAll("\"\\s*\\+\\s*\"", ""));
                while (text.find()) {
                    quotes.add(text.group(1));
                }
            }
        }
        return quotes;
    }

    private static boolean[] quotedPlaces(String promised, Set<String> quotes) {
        boolean[] isQuoted = new boolean[promised.length()];
        for (String quote : quotes) {
            int at = quote.length() < SHORTEST_QUOTE ? -1 : promised.indexOf(quote);
            while (at >= 0) {
                for (int i = at; i < at + quote.length(); i++) {
                    isQuoted[i] = true;
                }
                at = promised.indexOf(quote, at + 1);
            }
        }
        return isQuoted;
    }

    private static String around(String promised, Matcher bound) {
        int from = Math.max(0, bound.start() - 40);
        int to = Math.min(promised.length(), bound.end() + 40);
        return promised.substring(from, to).replace('\n', ' ');
    }
}
