import java.util.ArrayList;
import java.util.List;
import java.util.regex.Matcher;
import java.util.regex.Pattern;

/**
 * Many setup texts, most of them with slips, held against a second reading of section 7 that splits
 * a text by a regular expression. The texts are always the same.
 */
public final class SetupModelTest {
    private static final Checks CHECKS = new Checks("SetupModelTest");
    private static final Pattern TOKEN = Pattern.compile("[a-z]+|[0-9]+|[^ \\n]", Pattern.DOTALL);
    private static final List<String> KEYWORDS = List.of("season", "shares", "less", "least", "carry",
        "appeal", "recounts", "boat", "person", "of");
    private static final String[] PIECES = {"season", "shares", "less", "least", "carry", "appeal",
        "recounts", "boat", "person", "of", ";", ";", " ", "\n", "a", "b", "0", "7", "100", "1000",
        "012", "zzzzzz", "zzzzzzz", "A", "\t", ".", "person a;", "boat a;", " of a"};
    private static final int TEXTS = 20000;
    // An object is used for at most 512 calls; a text needs 43 at most.
    private static final int TEXTS_OF_ONE_OBJECT = 10;

    private long seed = 7;
    private List<String> tokens;
    private List<Integer> starts;
    private int at;

    private SetupModelTest() {
    }

    public static void main(String[] args) {
        SetupModelTest test = new SetupModelTest();
        StickVotes x = new StickVotes();
        for (int i = 0; i < TEXTS; i++) {
            if (i % TEXTS_OF_ONE_OBJECT == 0) x = new StickVotes();
            String text = test.someText();
            Villages.put(x, text);
            boolean isLoaded = x.load() >= 0;
            int due = test.errorIn(text);
            CHECKS.is("load of " + text, isLoaded, due == -2);
            CHECKS.is("error position in " + text, x.errorPosition(), due);
        }
        CHECKS.end();
    }

    private int next(int bound) {
        seed = seed * 6364136223846793005L + 1442695040888963407L;
        return (int) ((seed >>> 33) % bound);
    }

    // ---- texts

    private String someText() {
        StringBuilder text = new StringBuilder("season " + next(102) + " shares");
        for (int i = 0; i < 4; i++) text.append(" ").append(next(101));
        text.append(" less " + next(10) + " least " + (1 + next(20)) + " carry " + next(10));
        text.append(" appeal " + next(31) + " recounts " + next(4) + ";");
        for (int boats = next(3) == 0 ? next(8) : next(3); boats > 0; boats--) {
            text.append("boat " + someName() + ";");
        }
        for (int people = next(6) == 0 ? next(23) : next(5); people > 0; people--) {
            text.append("person " + someName() + (next(3) == 0 ? " of " + someName() : "") + ";");
        }
        for (int slips = next(3); slips > 0; slips--) slip(text);
        return text.length() > 780 ? text.substring(0, 780) : text.toString();
    }

    private String someName() {
        return "" + (char) ('a' + next(26)) + (next(9) == 0 ? "" : "" + (char) ('a' + next(26)));
    }

    private void slip(StringBuilder text) {
        int from = next(text.length() + 1);
        if (next(3) == 0) from = text.length() - next(Math.min(30, text.length()) + 1);
        int to = Math.min(text.length(), from + (next(2) == 0 ? 0 : next(6)));
        text.replace(from, to, next(4) == 0 ? "" : PIECES[next(PIECES.length)]);
    }

    // ---- the second reading

    private int errorIn(String text) {
        tokens = new ArrayList<>();
        starts = new ArrayList<>();
        for (Matcher m = TOKEN.matcher(text); m.find(); ) {
            tokens.add(m.group());
            starts.add(m.start());
        }
        tokens.add("");
        starts.add(text.length());
        at = 0;
        return fits() ? -2 : starts.get(at);
    }

    private boolean fits() {
        String[] rows = {"season", "1", "100", "shares", "0", "100", "", "0", "100", "", "0", "100",
            "", "0", "100", "less", "0", "9", "least", "1", "20", "carry", "0", "9", "appeal", "0",
            "30", "recounts", "0", "3"};
        for (int i = 0; i < rows.length; i += 3) {
            if (!rows[i].isEmpty() && !word(rows[i])) return false;
            if (!number(Integer.parseInt(rows[i + 1]), Integer.parseInt(rows[i + 2]))) return false;
        }
        return word(";") && boatsAndPeopleFit();
    }

    private boolean boatsAndPeopleFit() {
        List<String> boats = new ArrayList<>();
        List<String> people = new ArrayList<>();
        while (boats.size() < 6 && word("boat")) {
            if (!newName(boats) || !word(";")) return false;
        }
        while (people.size() < 20 && word("person")) {
            if (!newName(people)) return false;
            if (word("of") && !(boats.contains(tokens.get(at)) && word(tokens.get(at)))) return false;
            if (!word(";")) return false;
        }
        return people.size() >= 2 && tokens.get(at).isEmpty();
    }

    private boolean word(String word) {
        if (!tokens.get(at).equals(word)) return false;
        at++;
        return true;
    }

    private boolean number(int least, int most) {
        String token = tokens.get(at);
        if (!token.matches("[0-9]{1,3}")) return false;
        int number = Integer.parseInt(token);
        if (number < least || number > most) return false;
        at++;
        return true;
    }

    private boolean newName(List<String> names) {
        String token = tokens.get(at);
        if (!token.matches("[a-z]{1,6}") || KEYWORDS.contains(token)) return false;
        if (names.contains(token)) return false;
        names.add(token);
        at++;
        return true;
    }
}
