import java.util.function.IntUnaryOperator;

/** Makes villages from setup texts, and reads texts and states out of them. */
final class Villages {
    /** Two boats, five people; NEEDs 3, 2, 3, 5 in the seasons, less 1 for each boat out, 2 at least. */
    static final String PORT = numbers(10, "50 40 60 100", 1, 2, 1, 3, 1) + "boat ami;boat bee;"
        + "person ann of ami;person bob of ami;person cid of bee;person dan;person eve;";

    private Villages() {
    }

    static String numbers(int season, String shares, int less, int least, int carry, int appeal,
            int recounts) {
        return "season " + season + " shares " + shares + " less " + less + " least " + least
            + " carry " + carry + " appeal " + appeal + " recounts " + recounts + ";";
    }

    /** Puts a text on the tape, which has to be empty; signs above 255 are not meant. */
    static void put(StickVotes x, String text) {
        int[] bytes = new int[(text.length() + 19) / 20 * 20];
        for (int i = 0; i < text.length(); i++) bytes[i] = text.charAt(i);
        for (int i = 0; i < bytes.length; i += 20) {
            x.append(whole(bytes, i), whole(bytes, i + 4), whole(bytes, i + 8),
                whole(bytes, i + 12), whole(bytes, i + 16));
        }
        x.truncate(bytes.length - text.length());
    }

    private static int whole(int[] bytes, int at) {
        return bytes[at] << 24 | bytes[at + 1] << 16 | bytes[at + 2] << 8 | bytes[at + 3];
    }

    static StickVotes of(String text) {
        StickVotes x = new StickVotes();
        put(x, text);
        if (x.load() < 0) {
            throw new IllegalStateException("no setup: " + text + " at " + x.errorPosition());
        }
        return x;
    }

    static StickVotes port() {
        return of(PORT);
    }

    /** The setup text of people pa, pb, .. and boats ba, bb, ..; boatOf tells each one's boat or -2. */
    static String crowdText(String numbers, int people, int boats, IntUnaryOperator boatOf) {
        StringBuilder text = new StringBuilder(numbers);
        for (int b = 0; b < boats; b++) text.append("boat b").append((char) ('a' + b)).append(';');
        for (int p = 0; p < people; p++) {
            text.append("person p").append((char) ('a' + p));
            int boat = boatOf.applyAsInt(p);
            if (boat >= 0) text.append(" of b").append((char) ('a' + boat));
            text.append(';');
        }
        return text.toString();
    }

    static StickVotes crowd(String numbers, int people, int boats, IntUnaryOperator boatOf) {
        return of(crowdText(numbers, people, boats, boatOf));
    }

    static int letters(String name) {
        int letters = 0;
        for (int i = 0; i < 6; i++) {
            letters = letters << 5 | (i < name.length() ? name.charAt(i) - 'a' + 1 : 0);
        }
        return letters;
    }

    static String view(StickVotes x) {
        StringBuilder text = new StringBuilder();
        int length = x.viewLength();
        for (int i = 0; i < length; i++) text.append((char) x.viewByte(i));
        return text.toString();
    }

    static String story(StickVotes x) {
        StringBuilder text = new StringBuilder();
        int length = x.storyLength();
        for (int i = 0; i < length; i++) text.append((char) x.storyByte(i));
        return text.toString();
    }

    static String setup(StickVotes x) {
        StringBuilder text = new StringBuilder();
        int length = x.setupLength();
        for (int i = 0; i < length; i++) text.append((char) x.setupByte(i));
        return text.toString();
    }

    static String entry(StickVotes x, int i) {
        return x.log(i, 0) + " " + x.log(i, 1) + " " + x.log(i, 2) + " " + x.log(i, 3);
    }

    /** All that can be asked about a village, but for the tape, the slots and the undo steps. */
    static String everything(StickVotes x) {
        StringBuilder all = new StringBuilder();
        for (int what = 0; what <= 16; what++) all.append(x.value(what)).append(' ');
        for (int p = 0; p < x.value(2); p++) {
            for (int what = 0; what <= 6; what++) all.append(x.person(p, what)).append(' ');
            for (int what = 0; what <= 5; what++) all.append(x.stick(p, what)).append(' ');
            all.append(x.carries(p)).append('\n');
        }
        for (int b = 0; b < x.value(3); b++) {
            for (int what = 0; what <= 4; what++) all.append(x.boat(b, what)).append(' ');
            all.append(x.needIfHome(b)).append('\n');
        }
        for (int b = 0; b < 4; b++) {
            all.append(x.basket(b)).append(' ').append(x.owners(b)).append(' ');
            all.append(x.canWin(b)).append(' ').append(x.share(b)).append('\n');
        }
        for (int v = 0; v < x.value(13); v++) {
            for (int what = 0; what <= 3; what++) all.append(x.past(v, what)).append(' ');
        }
        for (int what = 0; what <= 9; what++) all.append(x.number(what)).append(' ');
        all.append(x.leads()).append(' ').append(x.truly()).append(' ').append(x.decisive());
        all.append(' ').append(x.lacks()).append(' ').append(x.mightiest()).append(' ');
        all.append(x.agrees()).append(' ').append(x.seafaring()).append(' ').append(x.wrongOnes());
        all.append(' ').append(x.needIn(7)).append(' ').append(x.bestDay(20)).append('\n');
        return all.append(view(x)).append(story(x)).append(setup(x)).toString();
    }
}
