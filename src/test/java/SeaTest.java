/** Promises 6 to 9, 17, 22, 23 and 45: boats, those who belong to them, and days. */
public final class SeaTest {
    private static final Checks CHECKS = new Checks("SeaTest");

    private SeaTest() {
    }

    public static void main(String[] args) {
        sail();
        delay();
        comeHome();
        join();
        whoJoinsStaysAshore();
        pass();
        seasons();
        boatsComeHomeInAscendingOrder();
        person();
        boat();
        seafaring();
        CHECKS.end();
    }

    private static void sail() {
        StickVotes x = Villages.port();
        CHECKS.is("sail(-1, 5)", x.sail(-1, 5), -1);
        CHECKS.is("sail(2, 5)", x.sail(2, 5), -1);
        CHECKS.is("sail(0, 0)", x.sail(0, 0), -1);
        CHECKS.is("sail(0, 100)", x.sail(0, 100), -1);
        CHECKS.is("sail(0, -5)", x.sail(0, -5), -1);
        CHECKS.is("nothing is out", x.value(4), 0);
        CHECKS.is("nothing to undo", x.undo(), -1);
        CHECKS.is("sail(0, 1)", x.sail(0, 1), 2);
        CHECKS.is("sail(0, 100) when out", x.sail(0, 100), -1);
        CHECKS.is("sail(0, 1) when out", x.sail(0, 1), -4);
        CHECKS.is("sail(1, 99)", x.sail(1, 99), 1);
        CHECKS.is("BACK 0", x.boat(0, 1), 1);
        CHECKS.is("BACK 1", x.boat(1, 1), 99);
        CHECKS.is("log 0", Villages.entry(x, 0), "0 0 0 1");
        CHECKS.is("log 1", Villages.entry(x, 1), "0 0 1 99");
        CHECKS.is("entries", x.value(14), 2);
        x.pass(4);
        x.join(0, -2);
        x.join(1, -2);
        CHECKS.is("sail(0, 3) without anybody", x.sail(0, 3), 0);
        CHECKS.is("its BACK", x.boat(0, 1), 7);
        CHECKS.is("sail() without boats", new StickVotes().sail(0, 1), -1);
    }

    private static void delay() {
        StickVotes x = Villages.port();
        CHECKS.is("delay(0, 1) at home", x.delay(0, 1), -4);
        CHECKS.is("delay(0, 0) at home", x.delay(0, 0), -1);
        x.sail(0, 5);
        x.pass(2);
        int entries = x.value(14);
        CHECKS.is("delay(0, 1)", x.delay(0, 1), 6);
        CHECKS.is("delay(0, 99)", x.delay(0, 99), 105);
        CHECKS.is("delay(0, 100)", x.delay(0, 100), -1);
        CHECKS.is("delay(0, 0)", x.delay(0, 0), -1);
        CHECKS.is("delay(2, 1)", x.delay(2, 1), -1);
        CHECKS.is("delay(-2, 1)", x.delay(-2, 1), -1);
        CHECKS.is("BACK", x.boat(0, 1), 105);
        CHECKS.is("home day of bob", x.person(1, 2), 105);
        CHECKS.is("delay is not logged", x.value(14), entries);
        CHECKS.is("undo() of delay", x.undo(), 3);
        CHECKS.is("BACK behind undo", x.boat(0, 1), 6);
    }

    private static void comeHome() {
        StickVotes x = Villages.port();
        CHECKS.is("comeHome(0) at home", x.comeHome(0), -4);
        CHECKS.is("comeHome(2)", x.comeHome(2), -1);
        CHECKS.is("comeHome(-1)", x.comeHome(-1), -1);
        x.sail(0, 5);
        x.sail(1, 5);
        x.pass(1);
        CHECKS.is("comeHome(0)", x.comeHome(0), 2);
        CHECKS.is("ann is ashore", x.person(0, 1), 0);
        CHECKS.is("cid is at sea", x.person(2, 1), 1);
        CHECKS.is("log of comeHome", Villages.entry(x, 2), "1 1 0 2");
        CHECKS.is("BACK at home is DAY", x.boat(0, 1), 1);
        CHECKS.is("comeHome(0) again", x.comeHome(0), -4);
        CHECKS.is("undo() of comeHome", x.undo(), 3);
        CHECKS.is("ann is at sea again", x.person(0, 1), 1);
        CHECKS.is("BACK again", x.boat(0, 1), 5);
    }

    private static void join() {
        StickVotes x = Villages.port();
        CHECKS.is("join(5, 0)", x.join(5, 0), -1);
        CHECKS.is("join(-1, 0)", x.join(-1, 0), -1);
        CHECKS.is("join(0, 2)", x.join(0, 2), -1);
        CHECKS.is("join(0, -1)", x.join(0, -1), -1);
        CHECKS.is("join(0, -3)", x.join(0, -3), -1);
        CHECKS.is("join(0, 0)", x.join(0, 0), -2);
        CHECKS.is("join(3, -2)", x.join(3, -2), -2);
        CHECKS.is("nothing to undo", x.undo(), -1);
        CHECKS.is("join(0, 1)", x.join(0, 1), 1);
        CHECKS.is("boat of ann", x.person(0, 0), 1);
        CHECKS.is("join(0, -2)", x.join(0, -2), 2);
        CHECKS.is("boat of ann", x.person(0, 0), -2);
        CHECKS.is("join(0, 1) from none", x.join(0, 1), 0);
        x.sail(0, 3);
        CHECKS.is("join(1, 1) at sea", x.join(1, 1), -3);
        CHECKS.is("join(1, 0) at sea", x.join(1, 0), -3);
        CHECKS.is("join(1, -2) at sea", x.join(1, -2), -3);
        CHECKS.is("join(1, 2) at sea", x.join(1, 2), -1);
        CHECKS.is("join is not logged", x.value(14), 1);
    }

    private static void whoJoinsStaysAshore() {
        StickVotes x = Villages.port();
        x.sail(0, 3);
        CHECKS.is("join(4, 0) when it is out", x.join(4, 0), 0);
        CHECKS.is("eve is ashore", x.person(4, 1), 0);
        CHECKS.is("eve's home day is DAY", x.person(4, 2), 0);
        CHECKS.is("aboard", x.boat(0, 2), 2);
        CHECKS.is("belonging", x.boat(0, 3), 3);
        CHECKS.is("people at sea", x.value(5), 2);
        CHECKS.is("people ashore", x.value(15), 3);
        CHECKS.is("pass(3)", x.pass(3), 2);
        CHECKS.is("eve's days at sea", x.person(4, 6), 0);
        CHECKS.is("ann's days at sea", x.person(0, 6), 3);
        CHECKS.is("eve sails now", x.sail(0, 2), 3);
        CHECKS.is("eve is at sea", x.person(4, 1), 1);
    }

    private static void pass() {
        StickVotes x = Villages.port();
        CHECKS.is("pass(0)", x.pass(0), -1);
        CHECKS.is("pass(100)", x.pass(100), -1);
        CHECKS.is("pass(-1)", x.pass(-1), -1);
        CHECKS.is("pass(99)", x.pass(99), 0);
        CHECKS.is("DAY", x.value(0), 99);
        x.sail(0, 2);
        CHECKS.is("pass(1)", x.pass(1), 0);
        CHECKS.is("pass(1) up to BACK", x.pass(1), 2);
        CHECKS.is("ann was at sea on the day of coming home, too", x.person(0, 6), 2);
        CHECKS.is("log of the coming home", Villages.entry(x, 1), "101 1 0 2");
        x.sail(0, 2);
        x.sail(1, 5);
        CHECKS.is("pass(10)", x.pass(10), 3);
        CHECKS.is("DAY", x.value(0), 111);
        CHECKS.is("ann's days", x.person(0, 6), 4);
        CHECKS.is("cid's days", x.person(2, 6), 5);
        CHECKS.is("log of boat 0", Villages.entry(x, 4), "103 1 0 2");
        CHECKS.is("log of boat 1", Villages.entry(x, 5), "106 1 1 1");
    }

    private static void seasons() {
        StickVotes x = Villages.port();
        int[] days = {9, 1, 9, 1, 10, 9, 1};
        int[] due = {0, 1, 1, 2, 3, 3, 0};
        for (int i = 0; i < days.length; i++) {
            x.pass(days[i]);
            CHECKS.is("season on the DAY " + x.value(0), x.value(1), due[i]);
        }
        StickVotes y = Villages.of(Villages.PORT.replace("season 10", "season 1"));
        for (int day = 0; day < 9; day++) {
            CHECKS.is("season of a day each", y.value(1), day % 4);
            y.pass(1);
        }
    }

    private static void boatsComeHomeInAscendingOrder() {
        StickVotes x = Villages.port();
        x.sail(1, 4);
        x.sail(0, 3);
        x.delay(0, 1);
        CHECKS.is("pass(4)", x.pass(4), 3);
        CHECKS.is("first boat 0", Villages.entry(x, 2), "4 1 0 2");
        CHECKS.is("then boat 1", Villages.entry(x, 3), "4 1 1 1");
    }

    private static void person() {
        StickVotes x = Villages.port();
        int[] due = {0, 0, 0, 0, 0, 0, 0};
        for (int what = 0; what < due.length; what++) {
            CHECKS.is("person(0, " + what + ")", x.person(0, what), due[what]);
        }
        CHECKS.is("person(3, 0)", x.person(3, 0), -2);
        CHECKS.is("person(0, 7)", x.person(0, 7), -1);
        CHECKS.is("person(0, -1)", x.person(0, -1), -1);
        CHECKS.is("person(5, 0)", x.person(5, 0), -1);
        CHECKS.is("person(-1, 0)", x.person(-1, 0), -1);
        CHECKS.is("person(MAX, 0)", x.person(Integer.MAX_VALUE, 0), -1);
        x.give(0, 3, -2);
        x.give(1, 3, 2);
        x.sail(0, 9);
        x.pass(2);
        x.open(2);
        x.lay(3, 0, 0);
        x.lay(3, 3, 0);
        x.contest(4, 3);
        x.contest(4, 3);
        int[] ofAnn = {0, 1, 9, 0, 0, 0, 2};
        int[] ofDan = {-2, 0, 2, 0, 1, 1, 0};
        for (int what = 0; what < 7; what++) {
            CHECKS.is("ann " + what, x.person(0, what), ofAnn[what]);
            CHECKS.is("dan " + what, x.person(3, what), ofDan[what]);
        }
        CHECKS.is("eve's faults", x.person(4, 3), 2);
        x.lay(3, 1, 1);
        CHECKS.is("dan laid two for others", x.person(3, 5), 2);
        CHECKS.is("dan carries none", x.person(3, 4), 0);
        CHECKS.is("bob's stick is struck", x.contest(4, 1), 2);
        CHECKS.is("dan laid two, struck ones too", x.person(3, 5), 2);
        x.close();
        CHECKS.is("dan laid two in the closed vote", x.person(3, 5), 2);
        x.open(2);
        CHECKS.is("dan laid none in the next vote", x.person(3, 5), 0);
        CHECKS.is("dan carries two again", x.person(3, 4), 2);
        CHECKS.is("eve's faults stay", x.person(4, 3), 2);
    }

    private static void boat() {
        StickVotes x = Villages.port();
        x.pass(3);
        int[] atHome = {0, 3, 0, 2, 0};
        int[] out = {1, 10, 2, 2, 1};
        for (int what = 0; what < 5; what++) {
            CHECKS.is("boat(0, " + what + ") at home", x.boat(0, what), atHome[what]);
        }
        x.sail(0, 7);
        for (int what = 0; what < 5; what++) {
            CHECKS.is("boat(0, " + what + ") out", x.boat(0, what), out[what]);
        }
        x.comeHome(0);
        x.sail(0, 1);
        CHECKS.is("it sailed twice", x.boat(0, 4), 2);
        x.undo();
        CHECKS.is("it sailed once", x.boat(0, 4), 1);
        CHECKS.is("boat(0, 5)", x.boat(0, 5), -1);
        CHECKS.is("boat(0, -1)", x.boat(0, -1), -1);
        CHECKS.is("boat(2, 0)", x.boat(2, 0), -1);
        CHECKS.is("boat(-1, 0)", x.boat(-1, 0), -1);
    }

    private static void seafaring() {
        StickVotes x = Villages.port();
        x.sail(0, 2);
        CHECKS.isReal("seafaring() on the DAY 0", x.seafaring(), 0);
        x.pass(1);
        CHECKS.isReal("seafaring() on the DAY 1", x.seafaring(), 2.0 / 5.0);
        x.pass(2);
        CHECKS.isReal("seafaring() on the DAY 3", x.seafaring(), 4.0 / 15.0);
        x.sail(1, 9);
        x.pass(4);
        CHECKS.isReal("seafaring() on the DAY 7", x.seafaring(), 8.0 / 35.0);
        x.undo();
        CHECKS.isReal("seafaring() behind undo", x.seafaring(), 4.0 / 15.0);
    }
}
