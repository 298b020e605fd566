import java.io.IOException;
import java.nio.charset.StandardCharsets;
import java.nio.file.Files;
import java.nio.file.Path;

/** Compares answers with those that are due, and ends with exit code 1 if one was not. */
final class Due {
    static final int LOW = -2147483648;
    static final int HIGH = 2147483647;

    private static final int MOST_TOLD = 30;
    private static final int[] LOOKED_AT = {0, 1, 2, 159};
    private static final int PROMISES = 40;

    private final boolean[] promised = new boolean[PROMISES + 1];
    private int wrong = 0;
    private int asked = 0;
    private int sentences = 0;
    private int askedAhead = 0;
    private String sentence = "";
    private String document = "";

    void is(String what, long got, long want) {
        asked++;
        if (got != want) {
            tell(what + " answered " + got + ", due is " + want);
        }
    }

    void holds(String what, boolean is) {
        is(what, is ? 1 : 0, 1);
    }

    private void tell(String fault) {
        wrong++;
        if (wrong <= MOST_TOLD) {
            System.out.println((sentence.isEmpty() ? "" : "\"" + sentence + "\": ") + fault);
        }
    }

    /** What is asked from here on tests this sentence, which the document must have word by word. */
    void sentence(String words) {
        begin(words, document());
    }

    /** The same, of a sentence under the heading of a promise. */
    void promise(int number, String words) {
        String heading = "## Promise " + number + ": ";
        int start = document().indexOf(heading);
        int end = document().indexOf("## ", start + heading.length());
        if (number < 1 || number > PROMISES || start < 0 || end < 0) {
            tell("the document has no promise " + number);
            return;
        }
        promised[number] = true;
        begin(words, document().substring(start, end));
    }

    void everyPromise() {
        endSentence();
        for (int number = 1; number <= PROMISES; number++) {
            holds("a test of promise " + number, promised[number]);
        }
    }

    private void begin(String words, String place) {
        endSentence();
        sentence = words;
        sentences++;
        askedAhead = asked;
        if (!place.contains(words)) {
            tell("the document does not say so");
        }
    }

    private void endSentence() {
        if (!sentence.isEmpty() && asked == askedAhead) {
            tell("nothing is asked of it");
        }
        sentence = "";
    }

    private String document() {
        if (document.isEmpty()) {
            try {
                String text = Files.readString(Path.of("../shared/DOC.md"), StandardCharsets.UTF_8);
                document = text.replaceAll("\\s+", " ");
            } catch (IOException e) {
                document = "?";
                tell("../shared/DOC.md can't be read");
            }
        }
        return document;
    }

    void end() {
        endSentence();
        System.out.println(asked + " answers" + (sentences == 0 ? "" : " of " + sentences + " sentences")
            + ", " + wrong + " not as due");
        if (wrong != 0 || asked == 0) {
            System.exit(1);
        }
    }

    static void putRow(TubesOfCourt x, int s, int sort, long... values) {
        x.row(s, sort, values.length);
        for (int i = 0; i < values.length; i++) {
            x.set(s, i, values[i]);
        }
    }

    static void putText(TubesOfCourt x, int s, String text) {
        x.row(s, 0, text.length());
        for (int i = 0; i < text.length(); i++) {
            x.set(s, i, text.charAt(i));
        }
    }

    static TubesOfCourt withDesks(int n) {
        TubesOfCourt x = new TubesOfCourt();
        for (int i = 0; i < n; i++) {
            x.desk();
        }
        return x;
    }

    /** Desks on a line, each joined with the next by a tube of this length and bore. */
    static TubesOfCourt line(int desks, int length, int bore) {
        TubesOfCourt x = withDesks(desks);
        for (int d = 0; d + 1 < desks; d++) {
            x.tube(d, d + 1, length, bore);
        }
        return x;
    }

    /** What can be asked of an object without changing it, in so few calls that 512 are not gone. */
    static String stateOf(TubesOfCourt x) {
        StringBuilder all = new StringBuilder();
        for (int what = 0; what <= 7; what++) {
            all.append(x.status(what)).append(' ');
        }
        for (int t = 0; t < x.status(1); t++) {
            for (int what = 0; what <= 4; what++) {
                all.append(x.tubeOf(t, what)).append(' ');
            }
        }
        for (int c = 0; c < x.status(2); c++) {
            for (int what = 0; what <= 3; what++) {
                all.append(x.capsuleOf(c, what)).append(' ');
            }
        }
        for (int d = 0; d < x.status(0); d++) {
            all.append(x.signed(d)).append(' ');
        }
        for (int s = 0; s < 8; s++) {
            all.append(x.holds(s)).append(' ');
            for (int i : LOOKED_AT) {
                all.append(x.element(s, i)).append(' ');
            }
        }
        return all.toString();
    }
}
