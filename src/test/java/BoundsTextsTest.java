/** The sentences of DOC.md that name a boundary: the view and the story (promises 46 to 49). */
public final class BoundsTextsTest {
    private static final Checks CHECKS = new Checks("BoundsTextsTest");

    private BoundsTextsTest() {
    }

    public static void main(String[] args) {
        viewLines();
        viewLength();
        viewByte();
        storyLines();
        storyLength();
        storyComesRound();
        storyByte();
        CHECKS.end();
    }

    private static void viewLines() {
        CHECKS.holds("Promise 46", "the name, a space, one of the words hand, with, laid and struck (for the places 0 to 3 of the stick)", () -> {
            StickVotes x = Villages.port();
            x.give(0, 3, 1);
            x.give(1, 4, -2);
            x.give(2, 3, -2);
            x.open(4);
            x.lay(3, 0, 3);
            x.lay(4, 1, 0);
            x.lay(4, 4, 2);
            x.contest(3, 1);
            CHECKS.is("view", Villages.view(x), "ann laid dan 3\nbob struck eve 0\ncid with dan\ndan hand\neve laid 2\n");
        });
        CHECKS.holds("Promise 46", "then, for with and for sticks that a carrier laid, a space and the name of the carrier; for sticks that are laid or struck a space and the basket", () -> {
            StickVotes x = Villages.crowd(Villages.numbers(9, "0 0 0 0", 0, 1, 1, 3, 1), 3, 0, p -> -2);
            CHECKS.is("view of none carried", Villages.view(x), "pa hand\npb hand\npc hand\n");
            x.give(1, 0, 3);
            x.give(0, 2, -2);
            CHECKS.is("view of two carried", Villages.view(x), "pa with pc\npb with pa\npc hand\n");
            x.open(4);
            x.lay(0, 1, 0);
            x.lay(2, 0, 3);
            x.lay(2, 2, 1);
            CHECKS.is("view of all laid", Villages.view(x), "pa laid pc 3\npb laid pa 0\npc laid 1\n");
            x.close();
            x.recount();
            CHECKS.is("view of two struck", Villages.view(x), "pa struck pc 3\npb struck pa 0\npc laid 1\n");
        });
        CHECKS.holds("Promise 46", "for people at sea a space and an asterisk (byte 42); and a line feed (byte 10).", () -> {
            StickVotes x = Villages.port();
            x.give(0, 3, 1);
            x.open(4);
            x.lay(1, 1, 0);
            x.lay(3, 0, 3);
            x.contest(4, 0);
            x.give(2, 3, -2);
            x.sail(0, 2);
            x.sail(1, 1);
            CHECKS.is("view", Villages.view(x), "ann struck dan 3 *\nbob laid 0 *\ncid with dan *\ndan hand\neve hand\n");
            x.pass(1);
            x.close();
            x.open(2);
            CHECKS.is("view of the next vote", Villages.view(x), "ann with dan *\nbob hand *\ncid with dan\ndan hand\neve hand\n");
            CHECKS.is("the asterisk", x.viewByte(13), 42);
            CHECKS.is("the line feed", x.viewByte(14), 10);
        });
    }

    private static void viewLength() {
        CHECKS.holds("Promise 46", "Returns the number of bytes.", () -> {
            CHECKS.is("viewLength() of the shortest", new StickVotes().viewLength(), 14);
            StringBuilder text = new StringBuilder(Villages.numbers(9, "0 0 0 0", 0, 1, 0, 3, 1) + "boat b;");
            for (char c = 'a'; c < 'u'; c++) text.append("person zzzzz").append(c).append(" of b;");
            StickVotes x = Villages.of(text.toString());
            for (int p = 0; p < 20; p++) x.give(p, p == 0 ? 1 : 0, -2);
            x.open(4);
            for (int p = 0; p < 20; p++) x.lay(p == 0 ? 1 : 0, p, 3);
            x.close();
            x.recount();
            x.sail(0, 99);
            CHECKS.is("viewLength() of the longest", x.viewLength(), 20 * "zzzzza struck zzzzzb 3 *\n".length());
            CHECKS.is("its last byte", x.viewByte(20 * 25 - 1), 10);
            CHECKS.is("behind its last byte", x.viewByte(20 * 25), -2);
        });
    }

    private static void viewByte() {
        String due = "a hand\nb hand\n";
        CHECKS.holds("Promise 47", "`i`: position, from 0", () -> {
            StickVotes x = new StickVotes();
            for (int i = 0; i < due.length(); i++) CHECKS.is("viewByte(" + i + ")", x.viewByte(i), due.charAt(i));
        });
        CHECKS.holds("Promise 47", "INVALID for a negative i", () -> {
            int[] wrongs = {-1, -2, -14, Integer.MIN_VALUE};
            for (int i : wrongs) CHECKS.is("viewByte(" + i + ")", new StickVotes().viewByte(i), -1);
        });
        CHECKS.holds("Promise 47", "NOT_FOUND if the view is not so long.", () -> {
            StickVotes x = new StickVotes();
            int[] beyond = {14, 15, 500, 2048, 5000, Integer.MAX_VALUE};
            for (int i : beyond) CHECKS.is("viewByte(" + i + ")", x.viewByte(i), -2);
            // A longer text that was asked for earlier leaves nothing behind.
            x.setupLength();
            CHECKS.is("viewByte(14) behind a longer text", x.viewByte(14), -2);
            x.give(0, 1, -2);
            CHECKS.is("viewByte(15) of a longer view", x.viewByte(15), '\n');
            CHECKS.is("viewByte(16) of a longer view", x.viewByte(16), -2);
            x.undo();
            CHECKS.is("viewByte(14) of the shorter one again", x.viewByte(14), -2);
        });
    }

    private static void storyLines() {
        CHECKS.holds("Promise 48", "one of the words sails, home, opens, laid, struck, fault, closed and turns (for the kinds 0 to 7)", () -> {
            StickVotes x = Villages.port();
            x.give(3, 4, -2);
            x.sail(1, 1);
            x.open(4);
            x.lay(4, 3, 3);
            x.lay(0, 0, 0);
            x.lay(4, 4, 3);
            x.contest(1, 0);
            x.pass(1);
            x.close();
            x.contest(0, 3);
            CHECKS.is("story", Villages.story(x), "0 sails 1 1\n0 opens 0 4\n0 laid 3 3\n0 laid 0 0\n0 laid 4 3\n"
                + "0 fault 1 1\n1 home 1 1\n1 closed 0 3\n1 struck 3 1\n1 turns 0 -1\n");
        });
        CHECKS.holds("Promise 48", "its second number (with a minus sign, if it is below 0)", () -> {
            StickVotes x = Villages.port();
            x.open(2);
            x.close();
            CHECKS.is("story of no result", Villages.story(x), "0 opens 0 2\n0 closed 0 -1\n");
            StickVotes y = new StickVotes();
            y.open(2);
            y.lay(0, 0, 0);
            y.close();
            CHECKS.is("story of the result 0", Villages.story(y), "0 opens 0 2\n0 laid 0 0\n0 closed 0 0\n");
        });
        CHECKS.holds("Promise 48", "its day, a space", () -> {
            int[] days = {0, 1, 9, 10, 99, 100, 999, 1000};
            StickVotes x = Villages.port();
            StringBuilder due = new StringBuilder();
            for (int vote = 0; vote < days.length; vote++) {
                while (x.value(0) < days[vote]) x.pass(Math.min(days[vote] - x.value(0), 99));
                x.open(3);
                x.close();
                due.append(days[vote]).append(" opens ").append(vote).append(" 3\n");
                due.append(days[vote]).append(" closed ").append(vote).append(" -1\n");
            }
            CHECKS.is("story of days with 1 to 4 digits", Villages.story(x), due.toString());
        });
    }

    private static void storyLength() {
        CHECKS.holds("Promise 48", "It has a line for each entry of the log", () -> {
            CHECKS.is("storyLength() of none", new StickVotes().storyLength(), 0);
            StickVotes x = new StickVotes();
            x.open(2);
            CHECKS.is("storyLength() of one", x.storyLength(), 12);
            x.undo();
            CHECKS.is("storyLength() of none again", x.storyLength(), 0);
        });
        CHECKS.holds("Promise 48", "Returns the number of bytes.", () -> {
            StickVotes x = Villages.crowd(Villages.numbers(1, "0 0 0 0", 0, 1, 1, 1, 1), 20, 6, p -> 5);
            for (int i = 0; i < 102; i++) x.pass(99);
            for (int i = 0; i < 16; i++) {
                x.sail(5, 99);
                x.comeHome(5);
            }
            String sails = "10098 sails 5 10197\n";
            String home = "10098 home 5 20\n";
            CHECKS.is("storyLength() of 30 lines", x.storyLength(), 15 * (sails.length() + home.length()));
            CHECKS.is("its last byte", x.storyByte(15 * (sails.length() + home.length()) - 1), 10);
        });
    }

    private static void storyComesRound() {
        int[] sizes = {29, 30, 31, 45, 61};
        for (int size : sizes) {
            CHECKS.holds("Promise 48", "It has a line for each entry of the log", () -> {
                StickVotes x = Villages.port();
                int kept = Math.min(size, 30);
                StringBuilder due = new StringBuilder();
                for (int i = 0; i < size; i++) {
                    if (i % 2 == 0) x.sail(1, 50);
                    if (i % 2 == 1) x.comeHome(1);
                    if (i >= size - kept) due.append(i / 2).append(i % 2 == 0 ? " sails 1 " + (i / 2 + 50) : " home 1 1").append('\n');
                    if (i % 2 == 1) x.pass(1);
                }
                CHECKS.is("storyLength() of " + size, x.storyLength(), due.length());
                String first = due.substring(0, 24);
                String last = due.substring(due.length() - 24);
                StringBuilder got = new StringBuilder();
                for (int i = 0; i < 24; i++) got.append((char) x.storyByte(i));
                CHECKS.is("the beginning of " + size, got.toString(), first);
                got.setLength(0);
                for (int i = due.length() - 24; i < due.length(); i++) got.append((char) x.storyByte(i));
                CHECKS.is("the end of " + size, got.toString(), last);
            });
        }
    }

    private static void storyByte() {
        CHECKS.holds("Promise 49", "`i`: position, from 0", () -> {
            StickVotes x = new StickVotes();
            x.open(2);
            String due = "0 opens 0 2\n";
            for (int i = 0; i < due.length(); i++) CHECKS.is("storyByte(" + i + ")", x.storyByte(i), due.charAt(i));
        });
        CHECKS.holds("Promise 49", "INVALID for a negative i", () -> {
            StickVotes x = new StickVotes();
            int[] wrongs = {-1, -2, -12, Integer.MIN_VALUE};
            for (int i : wrongs) CHECKS.is("storyByte(" + i + ") of none", x.storyByte(i), -1);
            x.open(2);
            for (int i : wrongs) CHECKS.is("storyByte(" + i + ")", x.storyByte(i), -1);
        });
        CHECKS.holds("Promise 49", "NOT_FOUND if the story is not so long.", () -> {
            StickVotes x = new StickVotes();
            int[] beyond = {0, 1, 12, 2048, Integer.MAX_VALUE};
            for (int i : beyond) CHECKS.is("storyByte(" + i + ") of none", x.storyByte(i), -2);
            x.setupLength();
            CHECKS.is("storyByte(0) behind a longer text", x.storyByte(0), -2);
            x.open(2);
            CHECKS.is("storyByte(11) of one", x.storyByte(11), 10);
            CHECKS.is("storyByte(12) of one", x.storyByte(12), -2);
            CHECKS.is("storyByte(MAX) of one", x.storyByte(Integer.MAX_VALUE), -2);
        });
    }
}
