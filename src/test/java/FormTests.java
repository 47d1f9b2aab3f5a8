import java.util.ArrayList;
import java.util.Collections;
import java.util.HashMap;
import java.util.HashSet;
import java.util.List;
import java.util.Map;
import java.util.Random;
import java.util.Set;
import java.util.regex.Matcher;
import java.util.regex.Pattern;

/**
 * The form of texts of tracks, taken as the document writes it: a machine that knows nothing of
 * tracks follows the rules below letter by letter. From each beginning of a text that it finds, it
 * goes on with every letter of the form and some that are none, so it knows for each of these texts
 * the first character that cannot continue a text; readTracks has to tell the same.
 */
public final class FormTests {
    // The rules of the document; a number stands for itself.
    private static final String[][] RULES = {
        {"list", "track { \" \" track}"},
        {"track", "simple [ \"?\" ] | \"repeat(\" number \",\" list \")\""},
        {"simple", "number | \"auto\" | \"min\" | \"max\" | number \"fr\" | \"fit(\" number \")\""
            + " | \"minmax(\" minimum \",\" maximum \")\""},
        {"minimum", "number | \"auto\" | \"min\" | \"max\""},
        {"maximum", "minimum | number \"fr\""},
    };
    private static final String LETTERS = "0479 ?(),refpatuominxlF-/:\t\u0000\u00f6\uff10";

    // All beginnings up to a length; of longer ones, some for each state of the machine.
    private static final int WHOLE_LENGTH = 5;
    private static final int PER_STATE = 8;
    private static final int MOST_OPEN = 4;

    /** A part of a rule: a letter, or the name of a kind with what it is made of. */
    private static final class Part {
        final char letter;
        final String kind;
        final List<Part> parts = new ArrayList<>();

        Part(String kind, char letter) {
            this.kind = kind;
            this.letter = letter;
        }
    }

    private final Map<String, Part> rules = new HashMap<>();
    private String rule = "";
    private int at = 0;

    public static void main(String[] args) {
        new FormTests().compareAll();
        Check.finish("FormTests");
    }

    // ---- reading the rules: alternatives of rows of parts

    private FormTests() {
        for (String[] named : RULES) {
            rule = named[1];
            at = 0;
            rules.put(named[0], alternatives());
        }
    }

    private Part alternatives() {
        Part choice = new Part("choice", ' ');
        do {
            choice.parts.add(row());
        } while (take('|'));
        return choice;
    }

    private Part row() {
        Part row = new Part("row", ' ');
        for (skipSpaces(); isInRow(); skipSpaces()) {
            if (take('"')) {
                int end = rule.indexOf('"', at);
                addWord(row, rule.substring(at, end));
                at = end + 1;
            } else if (take('{')) {
                row.parts.add(bracketed("repetition", '}'));
            } else if (take('[')) {
                row.parts.add(bracketed("option", ']'));
            } else {
                row.parts.add(new Part(name(), ' '));
            }
        }
        return row;
    }

    private boolean isInRow() {
        return at < rule.length() && "|]}".indexOf(rule.charAt(at)) < 0;
    }

    /** The bracket of a repeat is told from others, and so is the one that closes it. */
    private void addWord(Part row, String word) {
        boolean isInRepeat = rule.startsWith("simple [");
        for (char letter : word.toCharArray()) {
            boolean isBracket = isInRepeat && (letter == '(' || letter == ')');
            row.parts.add(new Part(isBracket ? (letter == '(' ? "open" : "close") : "letter", letter));
        }
    }

    private Part bracketed(String kind, char end) {
        Part part = new Part(kind, ' ');
        part.parts.add(alternatives());
        take(end);
        return part;
    }

    private String name() {
        int start = at;
        while (at < rule.length() && Character.isLetter(rule.charAt(at))) {
            at++;
        }
        return rule.substring(start, at);
    }

    private void skipSpaces() {
        while (at < rule.length() && rule.charAt(at) == ' ') {
            at++;
        }
    }

    private boolean take(char letter) {
        skipSpaces();
        if (at < rule.length() && rule.charAt(at) == letter) {
            at++;
            return true;
        }
        return false;
    }

    // ---- following the rules: a state is a set of rows of parts that may come next

    private final Part oneDigit = new Part("digits", '1');
    private final Part twoDigits = new Part("digits", '2');

    private static List<Part> ahead(List<Part> first, List<Part> rest) {
        List<Part> all = new ArrayList<>(first);
        all.addAll(rest);
        return all;
    }

    /** Adds all rows that begin with a letter or a number, and the empty row. */
    private void open(List<Part> row, Set<List<Part>> state) {
        if (row.isEmpty()) {
            state.add(row);
            return;
        }
        Part first = row.get(0);
        List<Part> rest = row.subList(1, row.size());
        switch (first.kind) {
            case "choice":
                first.parts.forEach(part -> open(ahead(part.parts, rest), state));
                break;
            case "repetition":
                open(rest, state);
                open(ahead(first.parts, row), state);
                break;
            case "option":
                open(rest, state);
                open(ahead(first.parts, rest), state);
                break;
            case "digits":
                open(rest, state);
                state.add(row);
                break;
            case "letter": case "open": case "close": case "number":
                state.add(row);
                break;
            default:
                open(ahead(List.of(rules.get(first.kind)), rest), state);
        }
    }

    private Set<List<Part>> follow(Set<List<Part>> state, char letter) {
        Set<List<Part>> next = new HashSet<>();
        boolean isDigit = letter >= '0' && letter <= '9';
        for (List<Part> row : state) {
            if (row.isEmpty()) {
                continue;
            }
            Part first = row.get(0);
            List<Part> rest = row.subList(1, row.size());
            if (first.kind.equals("number")) {
                if (isDigit) {
                    open(ahead(List.of(twoDigits), rest), next);
                }
            } else if (first.kind.equals("digits")) {
                if (isDigit) {
                    open(first == twoDigits ? ahead(List.of(oneDigit), rest) : rest, next);
                }
            } else if (first.letter == letter && !(first.kind.equals("open") && isFifth(row))) {
                open(rest, next);
            }
        }
        return next;
    }

    /** Counts the repeats that would have to be closed, this one among them. */
    private static boolean isFifth(List<Part> row) {
        return row.stream().filter(part -> part.kind.equals("close")).count() > MOST_OPEN;
    }

    private static boolean isComplete(Set<List<Part>> state) {
        return state.contains(List.of());
    }

    // ---- comparing

    private record Beginning(String text, Set<List<Part>> state) { }

    /** Goes on from all beginnings of one length, in a mixed order, to those that are longer. */
    private void compareAll() {
        Map<Set<List<Part>>, Integer> visits = new HashMap<>();
        Set<List<Part>> start = new HashSet<>();
        open(List.of(rules.get("list")), start);
        List<Beginning> beginnings = List.of(new Beginning("", start));
        for (int length = 1; !beginnings.isEmpty(); length++) {
            List<Beginning> longer = new ArrayList<>();
            for (Beginning beginning : beginnings) {
                longer.addAll(goOn(beginning));
            }
            Collections.shuffle(longer, new Random(length));
            if (length > WHOLE_LENGTH) {
                longer.removeIf(next -> visits.merge(next.state, 1, Integer::sum) > PER_STATE);
            }
            beginnings = longer;
        }
        int states = visits.size();
        Check.due("many states of the machine, not " + states, true, states > 250);
    }

    /** Compares each text that is longer by a letter; tells those that can be gone on with. */
    private List<Beginning> goOn(Beginning beginning) {
        List<Beginning> longer = new ArrayList<>();
        for (char letter : LETTERS.toCharArray()) {
            String text = beginning.text + letter;
            Set<List<Part>> state = follow(beginning.state, letter);
            if (state.isEmpty()) {
                compare(text, -100 - beginning.text.length());
                compare(text + "1", -100 - beginning.text.length());
            } else {
                compare(text, isComplete(state) ? 0 : -100 - text.length());
                longer.add(new Beginning(text, state));
            }
        }
        return longer;
    }

    /** Reads a text; an error position below 0, or 0 for a text that is correct, is due. */
    private static void compare(String text, int due) {
        GridEngine grid = new GridEngine();
        Check.feed(grid, text);
        if (due < 0) {
            Check.due(text, due, () -> grid.readTracks(0));
        } else if (Pattern.compile("(?<!\\d)0{1,3}fr").matcher(text).find()) {
            Check.thrown(text, IllegalArgumentException.class, () -> grid.readTracks(0));
        } else if (countTracks(text) > 12) {
            Check.thrown(text, IllegalStateException.class, () -> grid.readTracks(0));
        } else {
            Check.due(text, countTracks(text), () -> grid.readTracks(0));
        }
    }

    /** Counts tracks by putting a count in the place of each track, then of each repeat. */
    private static long countTracks(String text) {
        String counts = text.replaceAll("(fit|minmax)\\([^)]*\\)|auto|min|max|\\d+fr", "T");
        counts = counts.replaceAll("(?<=^|[ ,])\\d+(?=$|[ )?])", "T").replace("T?", "T");
        counts = counts.replace("T", "#1");
        Pattern innermost = Pattern.compile("repeat\\((\\d+),([# \\d]+)\\)");
        for (Matcher m = innermost.matcher(counts); m.find(); m = innermost.matcher(counts)) {
            long all = Long.parseLong(m.group(1)) * sum(m.group(2));
            counts = counts.substring(0, m.start()) + "#" + all + counts.substring(m.end());
        }
        return sum(counts);
    }

    private static long sum(String counts) {
        long sum = 0;
        for (String count : counts.split(" ")) {
            sum += Long.parseLong(count.substring(1));
        }
        return sum;
    }
}
