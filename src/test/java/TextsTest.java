/** Promises 46 to 49: the view and the story, byte by byte. */
public final class TextsTest {
    private static final Checks CHECKS = new Checks("TextsTest");

    private TextsTest() {
    }

    public static void main(String[] args) {
        view();
        viewBytes();
        longestView();
        story();
        storyBytes();
        storyOfTheLatestEntries();
        CHECKS.end();
    }

    private static void view() {
        StickVotes x = Villages.port();
        x.give(0, 3, 1);
        x.give(1, 4, -2);
        x.sail(0, 9);
        CHECKS.is("view of carried ones", Villages.view(x),
            "ann with dan *\nbob with eve *\ncid hand\ndan hand\neve hand\n");
        x.open(4);
        x.lay(3, 0, 3);
        x.lay(2, 2, 0);
        x.sail(1, 9);
        CHECKS.is("view of laid ones", Villages.view(x),
            "ann laid dan 3 *\nbob with eve *\ncid laid 0 *\ndan hand\neve hand\n");
        x.contest(4, 0);
        x.comeHome(0);
        CHECKS.is("view of struck ones", Villages.view(x),
            "ann struck dan 3\nbob with eve\ncid laid 0 *\ndan hand\neve hand\n");
        x.close();
        CHECKS.is("view behind close", Villages.view(x),
            "ann struck dan 3\nbob with eve\ncid laid 0 *\ndan hand\neve hand\n");
        x.open(2);
        CHECKS.is("view of the next vote", Villages.view(x),
            "ann with dan\nbob with eve\ncid hand *\ndan hand\neve hand\n");
    }

    private static void viewBytes() {
        StickVotes x = Villages.port();
        x.sail(0, 1);
        String due = "ann hand *\nbob hand *\ncid hand\ndan hand\neve hand\n";
        CHECKS.is("viewLength()", x.viewLength(), due.length());
        for (int i = 0; i < due.length(); i++) {
            CHECKS.is("viewByte(" + i + ")", x.viewByte(i), due.charAt(i));
        }
        CHECKS.is("viewByte(length)", x.viewByte(due.length()), -2);
        CHECKS.is("viewByte(MAX)", x.viewByte(Integer.MAX_VALUE), -2);
        CHECKS.is("viewByte(-1)", x.viewByte(-1), -1);
        CHECKS.is("viewByte(MIN)", x.viewByte(Integer.MIN_VALUE), -1);
    }

    private static void longestView() {
        StringBuilder text = new StringBuilder(Villages.numbers(9, "0 0 0 0", 0, 1, 0, 0, 0));
        text.append("boat b;");
        StringBuilder due = new StringBuilder();
        for (char c = 'a'; c < 'u'; c++) {
            text.append("person stick").append(c).append(" of b;");
            due.append("stick").append(c).append(" with stick").append(c == 'a' ? 'b' : 'a').append(" *\n");
        }
        StickVotes x = Villages.of(text.toString());
        for (int p = 0; p < 20; p++) x.give(p, p == 0 ? 1 : 0, -2);
        x.sail(0, 99);
        CHECKS.is("view of twenty", Villages.view(x), due.toString());
        CHECKS.is("its length", x.viewLength(), due.length());
        CHECKS.is("carries(0)", x.carries(0), 0xffffe);
    }

    private static void story() {
        StickVotes x = Villages.port();
        x.give(0, 3, 1);
        x.sail(1, 2);
        x.open(2);
        x.lay(3, 0, 0);
        x.lay(4, 4, 1);
        x.lay(1, 1, 0);
        x.contest(4, 4);
        x.pass(12);
        x.close();
        x.contest(4, 0);
        x.contest(3, 1);
        CHECKS.is("story", Villages.story(x), "0 sails 1 2\n0 opens 0 2\n0 laid 0 0\n0 laid 4 1\n"
            + "0 laid 1 0\n0 fault 4 1\n2 home 1 1\n12 closed 0 0\n12 struck 0 1\n12 fault 3 1\n");
        StickVotes y = Villages.port();
        y.give(0, 3, 1);
        y.open(2);
        y.lay(3, 0, 1);
        y.lay(4, 4, 1);
        y.lay(1, 1, 0);
        y.pass(99);
        y.pass(1);
        y.undo();
        y.undo();
        y.close();
        y.recount();
        y.open(3);
        y.close();
        CHECKS.is("story of a recount", Villages.story(y), "0 opens 0 2\n0 laid 0 1\n0 laid 4 1\n"
            + "0 laid 1 0\n0 closed 0 1\n0 struck 0 1\n0 turns 0 -1\n0 opens 1 3\n0 closed 1 -1\n");
    }

    private static void storyBytes() {
        StickVotes x = Villages.port();
        CHECKS.is("storyByte(0) of none", x.storyByte(0), -2);
        x.pass(99);
        x.pass(99);
        x.sail(0, 99);
        x.pass(5);
        x.comeHome(0);
        x.open(2);
        x.close();
        String due = "198 sails 0 297\n203 home 0 2\n203 opens 0 2\n203 closed 0 -1\n";
        CHECKS.is("storyLength()", x.storyLength(), due.length());
        for (int i = 0; i < due.length(); i++) {
            CHECKS.is("storyByte(" + i + ")", x.storyByte(i), due.charAt(i));
        }
        CHECKS.is("storyByte(length)", x.storyByte(due.length()), -2);
        CHECKS.is("storyByte(MAX)", x.storyByte(Integer.MAX_VALUE), -2);
        CHECKS.is("storyByte(-1)", x.storyByte(-1), -1);
        CHECKS.is("storyByte(MIN)", x.storyByte(Integer.MIN_VALUE), -1);
    }

    private static void storyOfTheLatestEntries() {
        StringBuilder due = new StringBuilder();
        for (int day = 99 * 86; day <= 99 * 100; day += 99) {
            due.append(day).append(" sails 1 ").append(day + 98).append('\n');
            due.append(day).append(" home 1 1\n");
        }
        String story = Villages.story(new Again(350, TextsTest::hundredShortTrips));
        CHECKS.is("story of 200 entries", story, due.toString());
    }

    private static StickVotes hundredShortTrips() {
        StickVotes x = Villages.port();
        for (int i = 0; i < 100; i++) {
            x.pass(99);
            x.sail(1, 98);
            x.comeHome(1);
        }
        return x;
    }
}
