import java.io.IOException;
import java.nio.file.Files;
import java.nio.file.Path;
import java.util.HashSet;
import java.util.Set;

/** What the tests by sentences share: each begins with words of the document, and tells answers that they make due. */
abstract class Sentences {
    static final long FAR = -2000000000000L;
    static final long BILLION = 1000000000L;
    static final long TRILLION = 1000000000000L;
    static final int NONE = TwoRopes.NONE;

    // KINDS.
    static final int DANCE = 0;
    static final int CHANGE = 1;
    static final int UNDER = 2;
    static final int MANY = 3;
    static final int TURN = 4;
    static final int BACK = 5;
    static final int ROUND = 6;

    // STEPS.
    static final int OVER_STEP = 0;
    static final int UNDER_STEP = 1;
    static final int ON_STEP = 2;
    static final int EITHER_STEP = 3;

    private static final Path DOCUMENT = Path.of("../shared/DOC.md");
    private static final String TEXT = read();

    private static String words = "";
    private static final Set<String> ALL = new HashSet<>();
    private static int wrong = 0;

    private static String read() {
        try {
            return Files.exists(DOCUMENT) ? plain(Files.readString(DOCUMENT)) : null;
        } catch (IOException e) {
            return null;
        }
    }

    private static String plain(String text) {
        return text.replaceAll("\\s+", " ").trim();
    }

    /** Begins the test of a sentence; its words are to stand in the document. */
    static void begin(String sentence) {
        words = sentence;
        ALL.add(sentence);
        if (TEXT != null && !TEXT.contains(plain(sentence))) {
            say("does not stand in the document");
        }
    }

    /** Begins the test of a sentence with a new object. */
    static TwoRopes of(String sentence) {
        begin(sentence);
        return new TwoRopes();
    }

    static void say(String what) {
        wrong++;
        StackTraceElement[] calls = new Throwable().getStackTrace();
        String lines = "";
        for (StackTraceElement call : calls) {
            if (!call.getClassName().equals("Sentences")) {
                lines += " " + call.getLineNumber();
            }
        }
        System.out.println("\"" + words + "\", lines" + lines + ": " + what);
    }

    static void due(long got, long want) {
        if (got != want) {
            say("answered " + got + ", due is " + want);
        }
    }

    static void now(TwoRopes x, long p, long q) {
        due(x.now(0), p);
        due(x.now(1), q);
    }

    static void stand(TwoRopes x, int... dancers) {
        for (int corner = 0; corner < 4; corner++) {
            due(x.stand(corner), dancers[corner]);
        }
    }

    static void fill(TwoRopes x, int s, int sort, long... elements) {
        due(x.row(s, sort, elements.length), 1);
        for (int i = 0; i < elements.length; i++) {
            due(x.set(s, i, elements[i]), 1);
        }
    }

    /** A text in SHELF 7, read. */
    static int barn(TwoRopes x, String text) {
        due(x.row(7, 0, text.length()), 1);
        for (int i = 0; i < text.length(); i++) {
            due(x.set(7, i, text.charAt(i)), 1);
        }
        return x.barn(7);
    }

    static void fault(TwoRopes x, String text, int place) {
        due(barn(x, text), -6);
        due(x.fault(), place);
    }

    static void trace(TwoRopes x, int... bodies) {
        due(x.status(4), bodies.length);
        for (int i = 0; i < bodies.length; i++) {
            due(x.trace(i), bodies[i]);
        }
        due(x.trace(bodies.length), NONE);
        due(x.trace(-1), NONE);
    }

    /** A new object with one FIGURE of each KIND, with the KIND's number, and COST 1 more than that. */
    static TwoRopes withKinds(String sentence, int a) {
        TwoRopes x = of(sentence);
        for (int kind = DANCE; kind <= ROUND; kind++) {
            due(x.figure(kind, a, kind + 1), kind);
        }
        return x;
    }

    static void end() {
        System.out.println(wrong == 0 ? ALL.size() + " sentences hold" : wrong + " answers are not due");
        System.exit(wrong == 0 ? 0 : 1);
    }
}
