import java.nio.file.Files;
import java.nio.file.Path;
import java.util.TreeMap;
import java.util.TreeSet;
import java.util.regex.Matcher;
import java.util.regex.Pattern;

/**
 * Boundary cases, each told with the number of its promise and the document's own words: the words are
 * looked up in the document, so that a case can't stand for a sentence that is not there.
 */
final class Bounds {
    static final int LEAST = Integer.MIN_VALUE;
    static final int MOST = Integer.MAX_VALUE;
    private static final Path DOCUMENT = Path.of("../shared/DOC.md");
    /** Values beside the bounds, and such as shifts or sums could take for others. */
    private static final int[] STRANGE = {LEAST, LEAST + 1, -65536, -256, -33, -32, -31, -17, -2, -1, 0, 1, 2, 3, 4,
        5, 8, 12, 15, 16, 17, 31, 32, 33, 60, 61, 64, 255, 256, 257, 599, 600, 601, 65535, 65536, 65537,
        1 << 24, 1 << 30, MOST - 20, MOST - 1, MOST};

    /** One argument of a call, the others being fixed. */
    interface Call {
        long of(int argument);
    }

    /** One argument of a call of a garden. */
    interface Asked {
        long of(CabbageViews x, int argument);
    }

    private final Check check = new Check();
    private final TreeMap<Integer, String> promises = new TreeMap<>();
    private final TreeSet<Integer> tested = new TreeSet<>();
    private final String terms;
    private String sentence = "no sentence";

    Bounds() throws Exception {
        String document = Files.readString(DOCUMENT);
        terms = flat(document.substring(document.indexOf("## Terms"), document.indexOf("## Promise 1:")));
        Matcher m = Pattern.compile("(?s)## Promise (\\d+): (.*?)(?=\n## )").matcher(document);
        while (m.find()) {
            promises.put(Integer.parseInt(m.group(1)), flat(m.group(2)));
        }
    }

    private static String flat(String text) {
        return text.replaceAll("\\s+", " ");
    }

    /** From here on the cases are those of these words of a promise. */
    void promise(int number, String words) {
        name(number, words, promises.getOrDefault(number, ""));
    }

    /** From here on the cases are those of these words of the terms, on which a promise rests. */
    void term(int number, String words) {
        name(number, words, terms);
    }

    private void name(int number, String words, String text) {
        tested.add(number);
        sentence = "promise " + number + ", '" + words + "'";
        check.holds(sentence + " stands in the document", text.contains(words));
    }

    void due(String call, long got, long want) {
        check.due(sentence + ": " + call, got, want);
    }

    /** Arguments from low to high are not refused, all others are. */
    void only(String call, Call f, int low, int high, long refusal) {
        for (int n = low; n <= high; n++) {
            check.holds(sentence + ": " + call + " of " + n + " is refused", f.of(n) != refusal);
        }
        refusedOutside(call, f, low, high, refusal);
    }

    /** Arguments below low and above high are refused. */
    void refusedOutside(String call, Call f, int low, int high, long refusal) {
        refusedAt(call, f, low - 1, refusal);
        refusedAt(call, f, high + 1, refusal);
        for (int n : STRANGE) {
            if (n < low || n > high) {
                refusedAt(call, f, n, refusal);
            }
        }
    }

    private void refusedAt(String call, Call f, int n, long refusal) {
        check.due(sentence + ": " + call + " of " + n, f.of(n), refusal);
    }

    /** An hour: 0 to the last one, whichever that is, in a garden with or without heads. */
    void hours(String call, Asked f, long refusal) {
        hoursOfHeads(call, f, refusal);
        CabbageViews bare = Check.planted("garden hours 3 law 0 odds 4;");
        only(call + " of no heads", hour -> f.of(bare, hour), 0, 3, refusal);
    }

    /** An hour of a call that needs head 0, too. */
    void hoursOfHeads(String call, Asked f, long refusal) {
        for (int last : new int[] {1, 9, 16}) {
            CabbageViews x = Check.planted("garden hours " + last + " law 0 odds 4;row hard 1 hard 1;say 1 to 0 at 0;");
            only(call + " of hours " + last, hour -> f.of(x, hour), 0, last, refusal);
        }
        CabbageViews twelve = Check.planted("garden hours 2 law 3 odds 4;" + "row hard 1 hard 1 hard 1;".repeat(4)
                + "say 1 to 0 at 0;say 2 to 11 at 0;");
        only(call + " of twelve heads", hour -> f.of(twelve, hour), 0, 2, refusal);
        CabbageViews none = new CabbageViews();
        refusedOutside(call + " of no garden", hour -> f.of(none, hour), 0, -1, refusal);
    }

    /** A head: one, two or twelve of them, or none. */
    void heads(String call, Asked f, long refusal) {
        for (int rows = 1; rows <= 4; rows++) {
            int last = rows * 3 - 1;
            CabbageViews x = Check.planted("garden hours 4 law 0 odds 4;" + "row hard 1 hard 1 hard 1;".repeat(rows));
            only(call + " of " + (last + 1) + " heads", head -> f.of(x, head), 0, last, refusal);
        }
        CabbageViews one = Check.planted("garden hours 4 law 0 odds 4;row hard 1;");
        only(call + " of one head", head -> f.of(one, head), 0, 0, refusal);
        CabbageViews bare = Check.planted("garden hours 3 law 0 odds 4;");
        refusedOutside(call + " of no heads", head -> f.of(bare, head), 0, -1, refusal);
        CabbageViews none = new CabbageViews();
        refusedOutside(call + " of no garden", head -> f.of(none, head), 0, -1, refusal);
    }

    /** A view from the lowest one that is asked for to 2. */
    void views(String call, Asked f, int low, long refusal) {
        CabbageViews x = Check.planted("garden hours 4 law 0 odds 4;row hard 1 hard 1;say 1 to 0 at 0;");
        only(call, view -> f.of(x, view), low, 2, refusal);
        CabbageViews none = new CabbageViews();
        refusedOutside(call + " of no garden", view -> f.of(none, view), 0, -1, refusal);
    }

    /** Each promise from one to another has been named. */
    void finish(int from, int to) {
        for (int number = from; number <= to; number++) {
            check.holds("promise " + number + " has a boundary case", tested.contains(number));
        }
        check.due("promises of the document", promises.size(), 72);
        check.finish();
    }
}
