import java.util.function.IntUnaryOperator;
import java.util.function.Supplier;

/** Makes villages from setup texts, and reads texts and states out of them. */
final class Villages {
    /** Two boats, five people; NEEDs 3, 2, 3, 5 in the seasons, less 1 for each boat out, 2 at least. */
    static final String PORT = numbers(10, "50 40 60 100", 1, 2, 1, 3, 1) + "boat ami;boat bee;"
        + "person ann of ami;person bob of ami;person cid of bee;person dan;person eve;";

    private Villages() {
    }

    static String numbers(int season, String shares, int less, int least, int carry, int appeal,
            int recounts) {
        return "season " + season + " shares " + shares + " less " + less + " least " + least
            + " carry " + carry + " appeal " + appeal + " recounts " + recounts + ";";
    }

    /** Puts a text on the tape, which has to be empty; signs above 255 are not meant. */
    static void put(StickVotes x, String text) {
        int[] bytes = new int[(text.length() + 19) / 20 * 20];
        for (int i = 0; i < text.length(); i++) bytes[i] = text.charAt(i);
        for (int i = 0; i < bytes.length; i += 20) {
            x.append(whole(bytes, i), whole(bytes, i + 4), whole(bytes, i + 8),
                whole(bytes, i + 12), whole(bytes, i + 16));
        }
        x.truncate(bytes.length - text.length());
    }

    private static int whole(int[] bytes, int at) {
        return bytes[at] << 24 | bytes[at + 1] << 16 | bytes[at + 2] << 8 | bytes[at + 3];
    }

    static StickVotes of(String text) {
        StickVotes x = new StickVotes();
        put(x, text);
        if (x.load() < 0) {
            throw new IllegalStateException("no setup: " + text + " at " + x.errorPosition());
        }
        return x;
    }

    static StickVotes port() {
        return of(PORT);
    }

    /** The setup text of people pa, pb, .. and boats ba, bb, ..; boatOf tells each one's boat or -2. */
    static String crowdText(String numbers, int people, int boats, IntUnaryOperator boatOf) {
        StringBuilder text = new StringBuilder(numbers);
        for (int b = 0; b < boats; b++) text.append("boat b").append((char) ('a' + b)).append(';');
        for (int p = 0; p < people; p++) {
            text.append("person p").append((char) ('a' + p));
            int boat = boatOf.applyAsInt(p);
            if (boat >= 0) text.append(" of b").append((char) ('a' + boat));
            text.append(';');
        }
        return text.toString();
    }

    static StickVotes crowd(String numbers, int people, int boats, IntUnaryOperator boatOf) {
        return of(crowdText(numbers, people, boats, boatOf));
    }

    static int letters(String name) {
        int letters = 0;
        for (int i = 0; i < 6; i++) {
            letters = letters << 5 | (i < name.length() ? name.charAt(i) - 'a' + 1 : 0);
        }
        return letters;
    }

    static String view(StickVotes x) {
        return view(() -> x);
    }

    /** The view; the village is handed out once for each call, as by Again. */
    static String view(Supplier<StickVotes> x) {
        return text(x.get().viewLength(), i -> x.get().viewByte(i));
    }

    static String story(StickVotes x) {
        return story(() -> x);
    }

    static String story(Supplier<StickVotes> x) {
        return text(x.get().storyLength(), i -> x.get().storyByte(i));
    }

    static String setup(StickVotes x) {
        return setup(() -> x);
    }

    static String setup(Supplier<StickVotes> x) {
        return text(x.get().setupLength(), i -> x.get().setupByte(i));
    }

    private static String text(int length, IntUnaryOperator byteAt) {
        StringBuilder text = new StringBuilder();
        for (int i = 0; i < length; i++) text.append((char) byteAt.applyAsInt(i));
        return text.toString();
    }

    static String entry(StickVotes x, int i) {
        return x.log(i, 0) + " " + x.log(i, 1) + " " + x.log(i, 2) + " " + x.log(i, 3);
    }

    /** All that can be asked about a village, but for the tape, the slots and the undo steps. */
    static String everything(StickVotes x) {
        return everything(() -> x);
    }

    static String everything(Supplier<StickVotes> x) {
        StringBuilder all = new StringBuilder();
        int people = x.get().value(2);
        int boats = x.get().value(3);
        int votes = x.get().value(13);
        for (int what = 0; what <= 16; what++) all.append(x.get().value(what)).append(' ');
        for (int p = 0; p < people; p++) {
            for (int what = 0; what <= 6; what++) all.append(x.get().person(p, what)).append(' ');
            for (int what = 0; what <= 5; what++) all.append(x.get().stick(p, what)).append(' ');
            all.append(x.get().carries(p)).append('\n');
        }
        for (int b = 0; b < boats; b++) {
            for (int what = 0; what <= 4; what++) all.append(x.get().boat(b, what)).append(' ');
            all.append(x.get().needIfHome(b)).append('\n');
        }
        for (int b = 0; b < 4; b++) {
            all.append(x.get().basket(b)).append(' ').append(x.get().owners(b)).append(' ');
            all.append(x.get().canWin(b)).append(' ').append(x.get().share(b)).append('\n');
        }
        for (int v = 0; v < votes; v++) {
            for (int what = 0; what <= 3; what++) all.append(x.get().past(v, what)).append(' ');
        }
        for (int what = 0; what <= 9; what++) all.append(x.get().number(what)).append(' ');
        all.append(x.get().leads()).append(' ').append(x.get().truly()).append(' ');
        all.append(x.get().decisive()).append(' ').append(x.get().lacks()).append(' ');
        all.append(x.get().mightiest()).append(' ').append(x.get().agrees()).append(' ');
        all.append(x.get().seafaring()).append(' ').append(x.get().wrongOnes()).append(' ');
        all.append(x.get().needIn(7)).append(' ').append(x.get().bestDay(20)).append('\n');
        return all.append(view(x)).append(story(x)).append(setup(x)).toString();
    }
}
