import java.io.IOException;
import java.nio.file.Files;
import java.nio.file.Path;
import java.util.BitSet;
import java.util.regex.Matcher;
import java.util.regex.Pattern;

/**
 * A sentence of the document, quoted as it stands there, with the test of what it says. In the end each clause of the
 * document and each line of its promises must have been quoted, so that none goes without a test.
 */
final class Sentence {
    private static final String PATH = "../shared/DOC.md";
    private static final int PROMISES = 49;
    private static final int MOST_LEFT = 5;
    private static final String DOC = read();
    private static final BitSet QUOTED = new BitSet();
    private static int tested = 0;

    private Sentence() {
    }

    /**
     * The document without its headings inside, and with one blank for each row of blanks and lines' ends. Where there
     * is none, the tests run all the same, and their quotes alone go unchecked.
     */
    private static String read() {
        try {
            return Files.readString(Path.of(PATH)).replaceAll("<h2>.*</h2>", " ").replaceAll("\\s+", " ");
        } catch (IOException e) {
            System.out.println("no document at " + PATH + ": the quotes are not checked");
            return "";
        }
    }

    /** A sentence ahead of the promises: what the class is, the terms, exceptions. */
    static void of(String quote, Runnable test) {
        run(0, start(1), quote, quote, test);
    }

    /** A line of a promise, or a part of one. */
    static void of(int promise, String quote, Runnable test) {
        run(start(promise), start(promise + 1), "promise " + promise + ": " + quote, quote, test);
    }

    private static int start(int promise) {
        return DOC.indexOf(promise > PROMISES ? "## Not promised" : "## Promise " + promise + ":");
    }

    private static void run(int from, int to, String name, String quote, Runnable test) {
        Check.begin(name);
        quote(from, to, quote);
        tested++;
        try {
            test.run();
        } catch (RuntimeException e) {
            Check.tell("met " + e + " at " + e.getStackTrace()[0]);
        }
        Check.begin("");
    }

    private static void quote(int from, int to, String quote) {
        if (DOC.isEmpty()) {
            return;
        }
        int found = DOC.indexOf(quote, from);
        int end = found + quote.length();
        if (found < 0 || end > to) {
            Check.tell("doesn't stand there in the document");
            return;
        }
        int again = DOC.indexOf(quote, end);
        if (again >= 0 && again < to) {
            Check.tell("stands there more than once");
        }
        QUOTED.set(found, end);
    }

    /** Tells which clauses no test has quoted. */
    static void end() {
        if (!DOC.isEmpty()) {
            allClauses();
        }
        System.out.println(tested + " sentences tested");
    }

    private static void allClauses() {
        clauses(DOC.indexOf("A tunnel that is driven"), DOC.indexOf("## The public face"), "[.;:] ");
        clauses(DOC.indexOf("A ring once built"), DOC.indexOf("A method that throws an"), "[.;:] ");
        clauses(DOC.indexOf("A method that throws an"), start(1), "[.;:] ");
        for (int promise = 1; promise <= PROMISES; promise++) {
            int signature = DOC.indexOf("`: ", start(promise));
            clauses(signature + 3, start(promise + 1), "\\. | (?=- `)| (?=Returns )| (?=Throws `)|, or |, ");
        }
    }

    private static void clauses(int from, int to, String between) {
        Matcher matcher = Pattern.compile(between).matcher(DOC).region(from, to);
        int at = from;
        while (matcher.find()) {
            clause(at, matcher.start());
            at = matcher.end();
        }
        clause(at, to);
        words(from, to);
    }

    private static void clause(int from, int to) {
        int quoted = QUOTED.nextSetBit(from);
        boolean isQuoted = quoted >= 0 && quoted < to;
        if (to - from > 2 && !isQuoted) {
            Check.tell("no test quotes: " + DOC.substring(from, to));
        }
    }

    /** A clause is quoted from end to end, but for a few words that join it with others. */
    private static void words(int from, int to) {
        int at = QUOTED.nextClearBit(from);
        while (at < to) {
            int quoted = QUOTED.nextSetBit(at);
            int end = quoted < 0 || quoted > to ? to : quoted;
            String left = DOC.substring(at, end).replaceAll("^\\W+", "");
            if (left.split("\\W+").length > MOST_LEFT) {
                Check.tell("no test quotes all of: " + left);
            }
            at = QUOTED.nextClearBit(end);
        }
    }
}
