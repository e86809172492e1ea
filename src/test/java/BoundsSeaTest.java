/**
 * The sentences of DOC.md that name a boundary: people, boats and days (sections 1 and 5), and
 * promises 6 to 9, 17, 22, 23 and 45. What is refused is in BoundsRefusalsTest, too.
 */
public final class BoundsSeaTest {
    private static final Checks CHECKS = new Checks("BoundsSeaTest");
    private static final String NUMBERS = Villages.numbers(10, "50 40 60 100", 1, 2, 1, 3, 1);

    private BoundsSeaTest() {
    }

    public static void main(String[] args) {
        peopleAndBoats();
        atSea();
        seasons();
        days();
        sail();
        sailDays();
        delay();
        comeHome();
        join();
        pass();
        person();
        personAtSea();
        boat();
        seafaring();
        CHECKS.end();
    }

    /** Twenty people who all belong to the last of six boats. */
    private static StickVotes full() {
        return Villages.crowd(NUMBERS, 20, 6, p -> 5);
    }

    private static void peopleAndBoats() {
        CHECKS.holds("Section 1", "There are 2 to 20 people, numbered from 0 (the eldest first), and 0 to 6 boats, numbered from 0, each with a name.", () -> {
            for (int people = 2; people <= 20; people++) {
                for (int boats = 0; boats <= 6; boats += 3) {
                    StickVotes x = Villages.crowd(NUMBERS, people, boats, p -> -2);
                    CHECKS.is("person(first, 0)", x.person(0, 0), -2);
                    CHECKS.is("person(last, 0)", x.person(people - 1, 0), -2);
                    CHECKS.is("person(one more, 0)", x.person(people, 0), -1);
                    CHECKS.is("boat(first, 0)", x.boat(0, 0), boats == 0 ? -1 : 0);
                    CHECKS.is("boat(last, 0)", x.boat(boats - 1, 0), boats == 0 ? -1 : 0);
                    CHECKS.is("boat(one more, 0)", x.boat(boats, 0), -1);
                }
            }
        });
        CHECKS.holds("Section 1", "Each person belongs to one boat or to none.", () -> {
            StickVotes x = Villages.crowd(NUMBERS, 20, 6, p -> p < 18 ? p / 3 : -2);
            for (int p = 0; p < 20; p++) CHECKS.is("person(" + p + ", 0)", x.person(p, 0), p < 18 ? p / 3 : -2);
            for (int b = 0; b < 6; b++) CHECKS.is("boat(" + b + ", 3)", x.boat(b, 3), 3);
        });
        CHECKS.holds("Section 1", "DAY is 0 at first.", () -> {
            CHECKS.is("DAY of a new object", new StickVotes().value(0), 0);
            CHECKS.is("DAY behind load()", Villages.port().value(0), 0);
            StickVotes x = new StickVotes();
            x.pass(99);
            Villages.put(x, Villages.PORT);
            x.load();
            CHECKS.is("DAY behind a later load()", x.value(0), 0);
        });
    }

    private static void atSea() {
        CHECKS.holds("Section 1", "A boat is at home, or out until a day (BACK).", () -> {
            StickVotes x = Villages.port();
            x.sail(0, 3);
            x.pass(2);
            CHECKS.is("on the day ahead of BACK it is out", x.boat(0, 0), 1);
            x.pass(1);
            CHECKS.is("on the day BACK it is at home", x.boat(0, 0), 0);
            CHECKS.is("comeHome(0) is refused then", x.comeHome(0), -4);
            CHECKS.is("sail(0, 1) is not", x.sail(0, 1), 2);
        });
        CHECKS.holds("Section 1", "When it sails, all who belong to it then and are ashore are aboard: they are at sea until it comes home.", () -> {
            StickVotes x = Villages.port();
            x.join(0, 1);
            x.join(3, 0);
            CHECKS.is("sail(0, 2)", x.sail(0, 2), 2);
            int[] due = {0, 1, 0, 1, 0};
            for (int p = 0; p < 5; p++) CHECKS.is("person(" + p + ", 1)", x.person(p, 1), due[p]);
            x.pass(1);
            for (int p = 0; p < 5; p++) CHECKS.is("person(" + p + ", 1) a day later", x.person(p, 1), due[p]);
            x.pass(1);
            for (int p = 0; p < 5; p++) CHECKS.is("person(" + p + ", 1) at home", x.person(p, 1), 0);
        });
        CHECKS.holds("Section 1", "Somebody who joins a boat that is out stays ashore until it sails the next time.", () -> {
            StickVotes x = Villages.port();
            x.sail(0, 3);
            CHECKS.is("join(3, 0)", x.join(3, 0), 0);
            CHECKS.is("ashore", x.person(3, 1), 0);
            CHECKS.is("aboard", x.boat(0, 2), 2);
            CHECKS.is("belonging", x.boat(0, 3), 3);
            CHECKS.is("delay(0, 2)", x.delay(0, 2), 5);
            CHECKS.is("ashore behind a delay", x.person(3, 1), 0);
            CHECKS.is("who comes home", x.pass(5), 2);
            CHECKS.is("log of it", Villages.entry(x, 1), "5 1 0 2");
            CHECKS.is("no day at sea", x.person(3, 6), 0);
            CHECKS.is("sail(0, 1), the next time", x.sail(0, 1), 3);
            CHECKS.is("at sea", x.person(3, 1), 1);
        });
        CHECKS.holds("Section 1", "Somebody who joins a boat that is out stays ashore until it sails the next time.", () -> {
            StickVotes x = Villages.port();
            x.sail(0, 3);
            x.join(3, 0);
            CHECKS.is("the one ashore leaves again", x.join(3, 1), 1);
            x.join(4, 0);
            CHECKS.is("comeHome(0)", x.comeHome(0), 2);
            CHECKS.is("sail(1, 1)", x.sail(1, 1), 2);
        });
    }

    private static void seasons() {
        CHECKS.holds("Section 1", "The season of a day is the day divided by LONG, cut, modulo 4.", () -> {
            StickVotes x = Villages.of(NUMBERS.replace("season 10", "season 1") + "person a;person b;");
            for (int day = 0; day <= 9; day++) {
                CHECKS.is("LONG 1, DAY " + day, x.value(1), day % 4);
                x.pass(1);
            }
        });
        CHECKS.holds("Section 1", "The season of a day is the day divided by LONG, cut, modulo 4.", () -> {
            int[] lengths = {2, 10, 90, 99, 100};
            for (int length : lengths) {
                StickVotes x = Villages.of(NUMBERS.replace("season 10", "season " + length) + "person a;person b;");
                for (int season = 0; season < 9; season++) {
                    CHECKS.is("first day of the season", x.value(1), season % 4);
                    x.pass(length - 1);
                    CHECKS.is("last day of the season", x.value(1), season % 4);
                    x.pass(1);
                }
            }
        });
        CHECKS.holds("Section 1", "four SHAREs (0 to 100, of the seasons 0 to 3)", () -> {
            StickVotes x = Villages.crowd(Villages.numbers(1, "10 20 30 40", 0, 1, 1, 1, 1), 10, 0, p -> -2);
            for (int day = 0; day < 9; day++) {
                CHECKS.is("NEED on the DAY " + day, x.value(6), 1 + day % 4);
                x.pass(1);
            }
        });
    }

    private static void days() {
        CHECKS.holds("Section 5", "As a day passes, DAY grows by 1, for each person at sea (also one who comes home on this day) this is a day at sea", () -> {
            StickVotes x = Villages.port();
            x.sail(0, 1);
            x.sail(1, 2);
            CHECKS.is("pass(1)", x.pass(1), 2);
            CHECKS.is("DAY", x.value(0), 1);
            CHECKS.is("came home on this day", x.person(0, 6), 1);
            CHECKS.is("still at sea", x.person(2, 6), 1);
            CHECKS.is("ashore", x.person(3, 6), 0);
            CHECKS.is("pass(1)", x.pass(1), 1);
            CHECKS.is("came home the day before", x.person(0, 6), 1);
            CHECKS.is("came home on this day", x.person(2, 6), 2);
        });
        CHECKS.holds("Section 5", "for each person at sea (also one who comes home on this day) this is a day at sea", () -> {
            StickVotes x = Villages.port();
            x.sail(0, 5);
            x.comeHome(0);
            x.pass(1);
            CHECKS.is("came home ahead of the first day", x.person(0, 6), 0);
        });
        CHECKS.holds("Section 5", "then, in ascending order, each boat whose BACK is this DAY comes home.", () -> {
            StickVotes x = Villages.crowd(NUMBERS, 20, 6, p -> p % 6);
            for (int b = 5; b >= 0; b--) x.sail(b, b == 3 ? 5 : 4);
            CHECKS.is("pass(3)", x.pass(3), 0);
            CHECKS.is("pass(1)", x.pass(1), 17);
            int[] order = {0, 1, 2, 4, 5};
            for (int i = 0; i < 5; i++) {
                CHECKS.is("log " + (6 + i), Villages.entry(x, 6 + i), "4 1 " + order[i] + (order[i] < 2 ? " 4" : " 3"));
            }
            CHECKS.is("boat 3 is out", x.boat(3, 0), 1);
            CHECKS.is("pass(1)", x.pass(1), 3);
            CHECKS.is("log 11", Villages.entry(x, 11), "5 1 3 3");
        });
        CHECKS.holds("Section 5", "As a day passes", () -> {
            StickVotes x = Villages.port();
            x.sail(1, 2);
            x.sail(0, 4);
            CHECKS.is("pass(9)", x.pass(9), 3);
            CHECKS.is("log of boat 1 on its day", Villages.entry(x, 2), "2 1 1 1");
            CHECKS.is("log of boat 0 on its day", Villages.entry(x, 3), "4 1 0 2");
            CHECKS.is("days at sea of boat 1", x.person(2, 6), 2);
            CHECKS.is("days at sea of boat 0", x.person(0, 6), 4);
        });
    }

    private static void sail() {
        CHECKS.holds("Promise 6", "Lets a boat sail (also without anybody aboard).", () -> {
            StickVotes x = full();
            CHECKS.is("sail(0, 4)", x.sail(0, 4), 0);
            CHECKS.is("it is out", x.boat(0, 0), 1);
            CHECKS.is("boats that are out", x.value(4), 1);
            CHECKS.is("log", Villages.entry(x, 0), "0 0 0 4");
            CHECKS.is("it counts for NEED", x.value(6), 9);
            CHECKS.is("pass(4)", x.pass(4), 0);
            CHECKS.is("log of the coming home", Villages.entry(x, 1), "4 1 0 0");
        });
        CHECKS.holds("Promise 6", "Returns how many are aboard", () -> {
            CHECKS.is("sail(5, 1) with twenty", full().sail(5, 1), 20);
            StickVotes x = Villages.crowd(NUMBERS, 20, 6, p -> p == 19 ? 0 : -2);
            CHECKS.is("sail(0, 1) with one", x.sail(0, 1), 1);
        });
        CHECKS.holds("Promise 6", "`boat`: a boat", () -> {
            StickVotes x = full();
            CHECKS.is("sail(-1, 1)", x.sail(-1, 1), -1);
            CHECKS.is("sail(6, 1)", x.sail(6, 1), -1);
            CHECKS.is("sail(0, 1)", x.sail(0, 1), 0);
            CHECKS.is("sail(5, 1)", x.sail(5, 1), 20);
            CHECKS.is("sail(0, 1) without boats", new StickVotes().sail(0, 1), -1);
        });
        CHECKS.holds("Promise 6", "NOT_THERE if it is out.", () -> {
            StickVotes x = Villages.port();
            x.sail(0, 2);
            CHECKS.is("sail(0, 9) when it is out", x.sail(0, 9), -4);
            CHECKS.is("its BACK", x.boat(0, 1), 2);
            CHECKS.is("its sailings", x.boat(0, 4), 1);
            x.pass(1);
            CHECKS.is("sail(0, 9) on the day ahead of BACK", x.sail(0, 9), -4);
            x.pass(1);
            CHECKS.is("sail(0, 9) on the day BACK", x.sail(0, 9), 2);
        });
    }

    private static void sailDays() {
        CHECKS.holds("Promise 6", "`days`: 1 to 99: how many days later it comes home", () -> {
            int[] rights = {1, 2, 98, 99};
            for (int days : rights) {
                StickVotes x = Villages.port();
                x.pass(7);
                CHECKS.is("sail(0, " + days + ")", x.sail(0, days), 2);
                CHECKS.is("BACK", x.boat(0, 1), 7 + days);
                if (days > 1) CHECKS.is("nobody comes a day earlier", x.pass(days - 1), 0);
                CHECKS.is("on the day", x.pass(1), 2);
            }
        });
        CHECKS.holds("Promise 6", "INVALID for an invalid argument", () -> {
            StickVotes x = Villages.port();
            int[] wrongs = {0, -1, 100, 101, Integer.MIN_VALUE, Integer.MAX_VALUE};
            for (int days : wrongs) CHECKS.is("sail(0, " + days + ")", x.sail(0, days), -1);
            CHECKS.is("boats that are out", x.value(4), 0);
        });
    }

    private static void delay() {
        CHECKS.holds("Promise 7", "Delays a boat that is out: its BACK grows.", () -> {
            StickVotes x = Villages.port();
            x.sail(0, 1);
            CHECKS.is("delay(0, 1)", x.delay(0, 1), 2);
            CHECKS.is("nobody comes on the first BACK", x.pass(1), 0);
            CHECKS.is("delay(0, 99)", x.delay(0, 99), 101);
            CHECKS.is("home day", x.person(0, 2), 101);
            CHECKS.is("pass(99)", x.pass(99), 0);
            CHECKS.is("pass(1)", x.pass(1), 2);
            CHECKS.is("a delay is not logged", x.value(14), 2);
        });
        CHECKS.holds("Promise 7", "`days`: 1 to 99", () -> {
            StickVotes x = Villages.port();
            x.sail(1, 9);
            int[] wrongs = {0, -1, 100, Integer.MIN_VALUE, Integer.MAX_VALUE};
            for (int days : wrongs) CHECKS.is("delay(1, " + days + ")", x.delay(1, days), -1);
            CHECKS.is("BACK", x.boat(1, 1), 9);
            CHECKS.is("delay(1, 1)", x.delay(1, 1), 10);
            CHECKS.is("delay(1, 99)", x.delay(1, 99), 109);
        });
        CHECKS.holds("Promise 7", "NOT_THERE if it is at home.", () -> {
            StickVotes x = Villages.port();
            CHECKS.is("delay(0, 1) at home", x.delay(0, 1), -4);
            x.sail(0, 1);
            x.pass(1);
            CHECKS.is("delay(0, 1) at home again", x.delay(0, 1), -4);
        });
    }

    private static void comeHome() {
        CHECKS.holds("Promise 8", "Lets a boat come home at once.", () -> {
            StickVotes x = full();
            x.sail(5, 99);
            CHECKS.is("comeHome(5) on the day of sailing", x.comeHome(5), 20);
            CHECKS.is("log", Villages.entry(x, 1), "0 1 5 20");
            CHECKS.is("BACK", x.boat(5, 1), 0);
            x.pass(99);
            CHECKS.is("it does not come home again", x.value(14), 2);
        });
        CHECKS.holds("Promise 8", "Returns how many come home with it", () -> {
            StickVotes x = full();
            x.sail(0, 2);
            CHECKS.is("comeHome(0) with none", x.comeHome(0), 0);
            x.sail(1, 2);
            x.join(19, 1);
            CHECKS.is("comeHome(1) with none, one has joined", x.comeHome(1), 0);
            x.sail(1, 2);
            CHECKS.is("comeHome(1) with one", x.comeHome(1), 1);
        });
        CHECKS.holds("Promise 8", "NOT_THERE if it is at home.", () -> {
            StickVotes x = full();
            CHECKS.is("comeHome(0)", x.comeHome(0), -4);
            x.sail(0, 1);
            x.comeHome(0);
            CHECKS.is("comeHome(0) again", x.comeHome(0), -4);
            CHECKS.is("comeHome(-1)", x.comeHome(-1), -1);
            CHECKS.is("comeHome(6)", x.comeHome(6), -1);
        });
    }

    private static void join() {
        CHECKS.holds("Promise 9", "Returns the earlier boat plus 1 (0 for none)", () -> {
            StickVotes x = full();
            CHECKS.is("join(19, 0)", x.join(19, 0), 6);
            CHECKS.is("join(19, -2)", x.join(19, -2), 1);
            CHECKS.is("join(19, 5)", x.join(19, 5), 0);
            CHECKS.is("join(0, -2)", x.join(0, -2), 6);
            CHECKS.is("person(0, 0)", x.person(0, 0), -2);
        });
        CHECKS.holds("Promise 9", "`boat`: a boat, or NOT_FOUND for none", () -> {
            StickVotes x = full();
            int[] wrongs = {-1, -3, 6, 7, Integer.MIN_VALUE, Integer.MAX_VALUE};
            for (int boat : wrongs) CHECKS.is("join(0, " + boat + ")", x.join(0, boat), -1);
            CHECKS.is("person(0, 0)", x.person(0, 0), 5);
            StickVotes y = new StickVotes();
            CHECKS.is("join(0, 0) without boats", y.join(0, 0), -1);
            CHECKS.is("join(0, -2) without boats", y.join(0, -2), -2);
        });
        CHECKS.holds("Promise 9", "NOT_FOUND if it is so already.", () -> {
            StickVotes x = Villages.port();
            CHECKS.is("join(0, 0)", x.join(0, 0), -2);
            CHECKS.is("join(2, 1)", x.join(2, 1), -2);
            CHECKS.is("join(3, -2)", x.join(3, -2), -2);
            x.sail(0, 3);
            x.join(3, 0);
            CHECKS.is("join(3, 0), ashore and the boat out", x.join(3, 0), -2);
        });
        CHECKS.holds("Promise 9", "AT_SEA if the person is at sea", () -> {
            StickVotes x = Villages.port();
            x.sail(0, 2);
            CHECKS.is("join(0, 1)", x.join(0, 1), -3);
            CHECKS.is("join(0, -2)", x.join(0, -2), -3);
            x.pass(2);
            CHECKS.is("join(0, 1) at home again", x.join(0, 1), 1);
        });
    }

    private static void pass() {
        CHECKS.holds("Promise 17", "`days`: 1 to 99", () -> {
            StickVotes x = Villages.port();
            int[] wrongs = {0, -1, 100, 101, Integer.MIN_VALUE, Integer.MAX_VALUE};
            for (int days : wrongs) CHECKS.is("pass(" + days + ")", x.pass(days), -1);
            CHECKS.is("DAY", x.value(0), 0);
            CHECKS.is("pass(1)", x.pass(1), 0);
            CHECKS.is("pass(99)", x.pass(99), 0);
            CHECKS.is("DAY", x.value(0), 100);
        });
        CHECKS.holds("Promise 17", "Returns how many people come home in them", () -> {
            StickVotes x = full();
            x.sail(5, 99);
            CHECKS.is("pass(98)", x.pass(98), 0);
            CHECKS.is("pass(1)", x.pass(1), 20);
            x.sail(5, 1);
            CHECKS.is("pass(99)", x.pass(99), 20);
            x.sail(0, 1);
            CHECKS.is("pass(1), a boat without people", x.pass(1), 0);
        });
        CHECKS.holds("Promise 17", "Returns how many people come home in them", () -> {
            StickVotes x = Villages.crowd(NUMBERS, 20, 6, p -> p % 6);
            for (int b = 0; b < 6; b++) x.sail(b, b + 1);
            CHECKS.is("pass(5)", x.pass(5), 17);
            CHECKS.is("pass(1)", x.pass(1), 3);
        });
    }

    private static void person() {
        CHECKS.holds("Promise 22", "INVALID for an invalid argument.", () -> {
            StickVotes x = full();
            int[] whats = {-1, 7, -2, 8, Integer.MIN_VALUE, Integer.MAX_VALUE};
            for (int what : whats) CHECKS.is("person(0, " + what + ")", x.person(0, what), -1);
            int[] people = {-1, 20, 21, Integer.MIN_VALUE, Integer.MAX_VALUE};
            for (int p : people) {
                for (int what = 0; what <= 6; what++) CHECKS.is("person(" + p + ", " + what + ")", x.person(p, what), -1);
            }
            CHECKS.is("person(20, 7)", x.person(20, 7), -1);
        });
        CHECKS.holds("Promise 22", "0 the boat of the person (NOT_FOUND without one)", () -> {
            StickVotes x = Villages.crowd(NUMBERS, 20, 6, p -> p == 0 ? 0 : p == 19 ? 5 : -2);
            CHECKS.is("person(0, 0)", x.person(0, 0), 0);
            CHECKS.is("person(19, 0)", x.person(19, 0), 5);
            CHECKS.is("person(1, 0)", x.person(1, 0), -2);
        });
        CHECKS.holds("Promise 22", "3 faults", () -> {
            StickVotes x = Villages.port();
            x.open(2);
            x.lay(3, 3, 0);
            for (int faults = 0; faults <= 3; faults++) {
                CHECKS.is("person(4, 3)", x.person(4, 3), faults);
                x.contest(4, 3);
            }
            CHECKS.is("person(4, 3) behind a refused contest()", x.person(4, 3), 3);
        });
        CHECKS.holds("Promise 22", "4 how many sticks of others the person carries (not laid)", () -> {
            StickVotes x = full();
            CHECKS.is("none", x.person(0, 4), 0);
            for (int p = 1; p < 20; p++) x.give(p, 0, -2);
            CHECKS.is("nineteen", x.person(0, 4), 19);
            x.open(2);
            x.lay(0, 0, 0);
            CHECKS.is("the own one is laid", x.person(0, 4), 19);
            x.lay(0, 19, 0);
            CHECKS.is("one is laid", x.person(0, 4), 18);
            x.takeBack(1);
            CHECKS.is("one is taken back", x.person(0, 4), 17);
        });
        CHECKS.holds("Promise 22", "5 how many the person laid for others in the latest vote", () -> {
            StickVotes x = full();
            CHECKS.is("without a vote", x.person(0, 5), 0);
            for (int p = 1; p < 20; p++) x.give(p, 0, -2);
            x.open(2);
            for (int p = 0; p < 20; p++) x.lay(0, p, 0);
            CHECKS.is("nineteen", x.person(0, 5), 19);
            x.contest(1, 2);
            CHECKS.is("also struck ones", x.person(0, 5), 19);
            x.close();
            x.recount();
            CHECKS.is("of a closed vote", x.person(0, 5), 19);
            x.open(2);
            CHECKS.is("of the next vote", x.person(0, 5), 0);
        });
        CHECKS.holds("Promise 22", "5 how many the person laid for others in the latest vote", () -> {
            StickVotes x = full();
            for (int p = 0; p < 19; p++) x.give(p, 19, -2);
            x.open(2);
            for (int p = 0; p < 20; p++) {
                CHECKS.is("ahead of lay() " + p, x.person(19, 5), p);
                x.lay(19, p, 0);
            }
            CHECKS.is("the own one does not count", x.person(19, 5), 19);
            CHECKS.is("the owners laid none", x.person(0, 5), 0);
        });
    }

    private static void personAtSea() {
        CHECKS.holds("Promise 22", "1 whether the person is at sea (1 or 0), 2 the day on which the person comes home (DAY if ashore)", () -> {
            StickVotes x = Villages.port();
            x.pass(3);
            CHECKS.is("person(0, 1) ashore", x.person(0, 1), 0);
            CHECKS.is("person(0, 2) ashore", x.person(0, 2), 3);
            x.sail(0, 4);
            CHECKS.is("person(0, 1) at sea", x.person(0, 1), 1);
            CHECKS.is("person(0, 2) at sea", x.person(0, 2), 7);
            x.pass(3);
            CHECKS.is("person(0, 1) on the day ahead", x.person(0, 1), 1);
            CHECKS.is("person(0, 2) on the day ahead", x.person(0, 2), 7);
            x.pass(1);
            CHECKS.is("person(0, 1) at home", x.person(0, 1), 0);
            CHECKS.is("person(0, 2) at home", x.person(0, 2), 7);
            x.pass(1);
            CHECKS.is("person(0, 2) a day later", x.person(0, 2), 8);
            x.sail(0, 9);
            x.join(3, 0);
            CHECKS.is("person(3, 2), ashore, the boat out", x.person(3, 2), 8);
        });
        CHECKS.holds("Promise 22", "6 for how many days in all the person was at sea up to DAY", () -> {
            StickVotes x = Villages.port();
            CHECKS.is("on the DAY 0", x.person(0, 6), 0);
            x.sail(0, 99);
            CHECKS.is("on the day of sailing", x.person(0, 6), 0);
            x.pass(99);
            CHECKS.is("behind 99 days", x.person(0, 6), 99);
            x.pass(5);
            CHECKS.is("ashore", x.person(0, 6), 99);
            x.sail(0, 1);
            x.pass(5);
            CHECKS.is("in all", x.person(0, 6), 100);
        });
    }

    private static void boat() {
        CHECKS.holds("Promise 23", "INVALID for an invalid argument.", () -> {
            StickVotes x = full();
            int[] whats = {-1, 5, -2, 6, Integer.MIN_VALUE, Integer.MAX_VALUE};
            for (int what : whats) CHECKS.is("boat(0, " + what + ")", x.boat(0, what), -1);
            int[] boats = {-1, 6, -2, Integer.MIN_VALUE, Integer.MAX_VALUE};
            for (int b : boats) {
                for (int what = 0; what <= 4; what++) CHECKS.is("boat(" + b + ", " + what + ")", x.boat(b, what), -1);
            }
        });
        CHECKS.holds("Promise 23", "0 whether it is out (1 or 0), 1 its BACK (DAY if it is at home)", () -> {
            StickVotes x = Villages.port();
            CHECKS.is("boat(1, 1) on the DAY 0", x.boat(1, 1), 0);
            x.pass(2);
            CHECKS.is("boat(1, 0) at home", x.boat(1, 0), 0);
            CHECKS.is("boat(1, 1) at home", x.boat(1, 1), 2);
            x.sail(1, 1);
            CHECKS.is("boat(1, 0) out", x.boat(1, 0), 1);
            CHECKS.is("boat(1, 1) out", x.boat(1, 1), 3);
            x.pass(5);
            CHECKS.is("boat(1, 1) at home again", x.boat(1, 1), 7);
        });
        CHECKS.holds("Promise 23", "2 how many are aboard, 3 how many belong to it, 4 how often it sailed", () -> {
            StickVotes x = full();
            int[] none = {0, 0, 0};
            int[] all = {0, 20, 0};
            for (int i = 0; i < 3; i++) CHECKS.is("boat(0, " + (2 + i) + ")", x.boat(0, 2 + i), none[i]);
            for (int i = 0; i < 3; i++) CHECKS.is("boat(5, " + (2 + i) + ")", x.boat(5, 2 + i), all[i]);
            x.sail(5, 1);
            CHECKS.is("boat(5, 2) out", x.boat(5, 2), 20);
            CHECKS.is("boat(5, 4) out", x.boat(5, 4), 1);
            for (int i = 2; i <= 50; i++) {
                x.comeHome(5);
                x.sail(5, 1);
                CHECKS.is("boat(5, 4)", x.boat(5, 4), i);
            }
        });
    }

    private static void seafaring() {
        CHECKS.holds("Promise 45", "0 on the DAY 0.", () -> {
            StickVotes x = full();
            CHECKS.isReal("seafaring() on the DAY 0", x.seafaring(), 0);
            x.sail(5, 9);
            CHECKS.isReal("seafaring() on the DAY 0, all at sea", x.seafaring(), 0);
            x.pass(1);
            x.undo();
            CHECKS.isReal("seafaring() on the DAY 0 again", x.seafaring(), 0);
        });
        CHECKS.holds("Promise 45", "Returns the sum of the days for which all people were at sea up to DAY, as a double, divided by DAY times the number of people, as a double", () -> {
            StickVotes x = full();
            x.pass(1);
            CHECKS.isReal("nobody at sea", x.seafaring(), 0);
            x.sail(5, 2);
            x.pass(1);
            CHECKS.isReal("all on one of two days", x.seafaring(), 20.0 / 40.0);
            x.pass(1);
            CHECKS.isReal("all on two of three days", x.seafaring(), 40.0 / 60.0);
            StickVotes y = full();
            y.sail(5, 99);
            y.pass(99);
            CHECKS.isReal("all on all days", y.seafaring(), 1);
            StickVotes z = Villages.of(NUMBERS + "boat c;person a of c;person b;person d;");
            z.sail(0, 1);
            z.pass(99);
            z.pass(99);
            CHECKS.isReal("one on one of 198 days", z.seafaring(), 1.0 / 594.0);
        });
    }
}
