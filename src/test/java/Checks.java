import java.io.IOException;
import java.nio.file.Files;
import java.nio.file.Path;
import java.util.List;
import java.util.function.LongSupplier;

/** What the tests share: they count answers that are not as due, and watch that a refused call changes nothing. */
final class Checks {
    static final int MIN = Integer.MIN_VALUE, MAX = Integer.MAX_VALUE;
    private static final Path DOCUMENT = Path.of("../shared/DOC.md");

    private final String name;
    private final String document;
    private String sentence = "";
    private int sentences;
    private int asked;
    private int wrong;

    Checks(String name) {
        this.name = name;
        this.document = documentText();
    }

    /** Empty, if there is none to be read: then every sentence that a test quotes is missing in it, and told. */
    private static String documentText() {
        try {
            return Files.readString(DOCUMENT);
        } catch (IOException e) {
            return "";
        }
    }

    /** The words of the document by which the answers to come are due; they have to stand there to the letter. */
    void says(String words) {
        sentence = words;
        sentences++;
        if (!document.contains(words)) {
            wrong++;
            tell("the document does not say this");
        }
    }

    private void tell(String what) {
        System.out.println(name + ": " + what + (sentence.isEmpty() ? "" : " [" + sentence + "]"));
    }

    void due(String call, long got, long want) {
        asked++;
        if (got != want) {
            wrong++;
            tell(call + " answered " + got + ", due is " + want);
        }
    }

    /** The answer of the call that the run made last. */
    void due(Run x, long got, long want) {
        due(x.last(), got, want);
    }

    /** The answer of the call that the run made last, and what it shows. */
    void due(Run x, String shows, long got, long want) {
        due(shows + ": " + x.last(), got, want);
    }

    void holds(String what, boolean is) {
        due(what, is ? 1 : 0, 1);
    }

    /** What told() tells of a CASE, from a first number on. */
    void told(Run x, int o, int k, int first, long... want) {
        for (int i = 0; i < want.length; i++) {
            due(x, x.told(o, k, first + i), want[i]);
        }
    }

    void refused(Run x, long want, LongSupplier call) {
        refused(x, "a refusal", want, call);
    }

    /** The call answers the refusal, and all that can be found out of the object is as it was ahead of it. */
    void refused(Run x, String shows, long want, LongSupplier call) {
        int ahead = x.size();
        long got = call.getAsLong();
        due(x, shows, got, want);
        due("calls made by one refusal", x.size() - ahead, 1);
        List<String> before = Watch.of(x, ahead, x.room());
        List<String> behind = Watch.of(x, ahead + 1, x.room());
        asked++;
        if (!before.equals(behind)) {
            wrong++;
            tell(x.last() + " was refused and changed something: " + firstOther(before, behind));
        }
    }

    private static String firstOther(List<String> before, List<String> behind) {
        for (int i = 0; i < Math.min(before.size(), behind.size()); i++) {
            if (!before.get(i).equals(behind.get(i))) {
                return before.get(i) + " without it, " + behind.get(i) + " with it";
            }
        }
        return "more is told";
    }

    void end() {
        System.out.println(name + ": " + (sentences == 0 ? "" : sentences + " sentences, ") + asked + " answers, "
                + wrong + " not as due");
        if (wrong != 0) {
            System.exit(1);
        }
    }

    /** The numbers next to a range on both sides, and the farthest ones. */
    static int[] beyond(int first, int last) {
        return new int[] {first - 1, last + 1, MIN, MAX};
    }
}
