/** The sentences of DOC.md that name a boundary: what would be (promises 34 to 42). */
public final class BoundsWouldBeTest {
    private static final Checks CHECKS = new Checks("BoundsWouldBeTest");

    private BoundsWouldBeTest() {
    }

    public static void main(String[] args) {
        needIfHome();
        leads();
        truly();
        trulyOfClosedVotes();
        canWinArguments();
        canWin();
        canWinWithWhatCanBeLaid();
        decisive();
        decisiveSticks();
        lacks();
        needInDays();
        needIn();
        bestDayDays();
        bestDay();
        bestDayOfTwoBoats();
        mightiest();
        mightiestOfSeveral();
        CHECKS.end();
    }

    /** Twenty people, those from 10 on of the boat 0; NEED is LEAST. */
    private static StickVotes crowd(int least, int carry) {
        return Villages.crowd(Villages.numbers(10, "0 0 0 0", 0, least, carry, 3, 1), 20, 1, p -> p < 10 ? -2 : 0);
    }

    /** Twenty people, six boats, nobody aboard; SHARE 100 and 50 by turns. */
    private static StickVotes fleet(int less, int least) {
        return Villages.crowd(Villages.numbers(10, "100 50 100 50", less, least, 1, 3, 1), 20, 6, p -> -2);
    }

    private static void needIfHome() {
        CHECKS.holds("Promise 34", "INVALID for an invalid argument; NOT_THERE if it is at home.", () -> {
            StickVotes x = fleet(1, 1);
            int[] wrongs = {-1, 6, -2, 7, Integer.MIN_VALUE, Integer.MAX_VALUE};
            for (int turn = 0; turn < 2; turn++) {
                for (int boat : wrongs) CHECKS.is("needIfHome(" + boat + ")", x.needIfHome(boat), -1);
                CHECKS.is("needIfHome(0) at home", x.needIfHome(0), -4);
                x.sail(5, 9);
            }
            CHECKS.is("needIfHome(5) out", x.needIfHome(5), 20);
            x.pass(9);
            CHECKS.is("needIfHome(5) at home again", x.needIfHome(5), -4);
            CHECKS.is("needIfHome(0) without boats", new StickVotes().needIfHome(0), -1);
        });
        CHECKS.holds("Promise 34", "Returns NEED as it would be now if a boat that is out was at home.", () -> {
            StickVotes x = fleet(4, 5);
            int[] due = {20, 16, 12, 8, 5, 5};
            for (int boat = 0; boat < 6; boat++) {
                x.sail(boat, 9);
                CHECKS.is("needIfHome() with " + (boat + 1) + " out", x.needIfHome(0), due[boat]);
                CHECKS.is("the same for each", x.needIfHome(boat), due[boat]);
            }
            CHECKS.is("NEED stays", x.value(6), 5);
        });
        CHECKS.holds("Promise 34", "Returns that NEED (as if none was fixed)", () -> {
            StickVotes x = fleet(4, 5);
            x.open(2);
            x.sail(0, 99);
            x.close();
            x.pass(10);
            CHECKS.is("NEED, fixed", x.value(6), 16);
            CHECKS.is("needIfHome(0) in the season 1", x.needIfHome(0), 10);
        });
    }

    private static void leads() {
        CHECKS.holds("Promise 35", "Returns the basket; NOT_FOUND without a result; TOO_LATE if no vote is open.", () -> {
            StickVotes x = crowd(3, 1);
            CHECKS.is("leads() without a vote", x.leads(), -5);
            x.open(4);
            CHECKS.is("leads() of none", x.leads(), -2);
            x.lay(0, 0, 3);
            x.lay(1, 1, 3);
            CHECKS.is("leads() of one less than NEED", x.leads(), -2);
            x.lay(2, 2, 3);
            CHECKS.is("leads() of NEED", x.leads(), 3);
            x.undo();
            x.lay(2, 2, 0);
            CHECKS.is("leads() of NEED in two", x.leads(), 3);
            x.close();
            CHECKS.is("leads() of a closed vote", x.leads(), -5);
            x.open(2);
            CHECKS.is("leads() of the next one", x.leads(), -2);
        });
        CHECKS.holds("Promise 35", "Returns what the result would be if the vote was closed now.", () -> {
            StickVotes x = fleet(1, 1);
            x.open(2);
            for (int p = 0; p < 19; p++) x.lay(p, p, 1);
            CHECKS.is("leads() of 19 with NEED 20", x.leads(), -2);
            x.sail(0, 1);
            CHECKS.is("leads() of 19 with NEED 19", x.leads(), 1);
            x.pass(1);
            CHECKS.is("leads() of 19 with NEED 20 again", x.leads(), -2);
            x.pass(9);
            CHECKS.is("leads() of 19 with NEED 10", x.leads(), 1);
        });
    }

    private static void truly() {
        CHECKS.holds("Promise 36", "NOT_FOUND without a result; TOO_LATE without a vote.", () -> {
            StickVotes x = crowd(2, 1);
            CHECKS.is("truly() without a vote", x.truly(), -5);
            x.give(1, 2, -2);
            x.open(2);
            CHECKS.is("truly() of none", x.truly(), -2);
            x.lay(0, 0, 1);
            x.lay(2, 1, 1);
            CHECKS.is("leads() of NEED", x.leads(), 1);
            CHECKS.is("truly() of one less than NEED", x.truly(), -2);
            x.lay(2, 2, 1);
            CHECKS.is("truly() of NEED", x.truly(), 1);
            x.close();
            CHECKS.is("truly() of a closed vote", x.truly(), 1);
            x.pass(50);
            CHECKS.is("truly() of one that is closed for good", x.truly(), 1);
        });
        CHECKS.holds("Promise 36", "Returns the basket if all wrong sticks were struck", () -> {
            StickVotes x = crowd(1, 0);
            for (int p = 1; p < 20; p++) x.give(p, 0, -2);
            x.open(4);
            for (int p = 1; p < 20; p++) x.lay(0, p, 3);
            CHECKS.is("truly() of nineteen wrong ones", x.truly(), -2);
            x.lay(0, 0, 2);
            CHECKS.is("leads()", x.leads(), 3);
            CHECKS.is("truly()", x.truly(), 2);
            CHECKS.is("nothing is struck", x.value(11), 0);
            CHECKS.is("nothing is recounted", x.value(12), 0);
            StickVotes y = crowd(1, 0);
            y.give(0, 1, -2);
            y.open(2);
            y.lay(1, 0, 0);
            y.lay(19, 19, 1);
            CHECKS.is("leads() of the eldest one's, a wrong one", y.leads(), 0);
            CHECKS.is("truly() without it", y.truly(), 1);
        });
    }

    private static void trulyOfClosedVotes() {
        CHECKS.holds("Promise 36", "(of an open vote, if it was closed then now)", () -> {
            StickVotes x = fleet(1, 1);
            x.open(2);
            for (int p = 0; p < 10; p++) x.lay(p, p, 1);
            CHECKS.is("truly() with NEED 20", x.truly(), -2);
            x.pass(10);
            CHECKS.is("truly() with NEED 10", x.truly(), 1);
            x.close();
            x.pass(10);
            CHECKS.is("truly() with NEED 10, fixed", x.truly(), 1);
            CHECKS.is("needIn(0)", x.needIn(0), 20);
        });
    }

    private static void canWinArguments() {
        CHECKS.holds("Promise 37", "false for an invalid argument, if no vote is open, or it has no such basket.", () -> {
            StickVotes x = crowd(1, 1);
            int[] wrongs = {-1, 4, -2, 5, Integer.MIN_VALUE, Integer.MAX_VALUE};
            for (int basket = 0; basket < 4; basket++) CHECKS.is("canWin(" + basket + ") without a vote", x.canWin(basket), false);
            for (int baskets = 2; baskets <= 4; baskets++) {
                x.open(baskets);
                for (int basket = 0; basket < 4; basket++) CHECKS.is("canWin(" + basket + ") of " + baskets, x.canWin(basket), basket < baskets);
                for (int basket : wrongs) CHECKS.is("canWin(" + basket + ") of " + baskets, x.canWin(basket), false);
                x.close();
                for (int basket = 0; basket < 4; basket++) CHECKS.is("canWin(" + basket + "), closed", x.canWin(basket), false);
            }
        });
    }

    private static void canWin() {
        String words = "Returns whether it would be the result if the vote was closed now behind all sticks that are not laid, but can be laid now";
        CHECKS.holds("Promise 37", words, () -> {
            StickVotes x = crowd(1, 1);
            x.open(2);
            for (int p = 10; p < 20; p++) x.lay(p, p, 0);
            CHECKS.is("ten against ten, the eldest's among those", x.canWin(1), true);
            x.lay(0, 0, 0);
            CHECKS.is("nine against eleven", x.canWin(1), false);
            x.undo();
            x.lay(0, 0, 1);
            CHECKS.is("ten against ten again", x.canWin(1), true);
            StickVotes y = crowd(1, 1);
            y.open(2);
            for (int p = 0; p < 10; p++) y.lay(p, p, 0);
            CHECKS.is("ten against ten, the eldest's not among those", y.canWin(1), false);
            CHECKS.is("the other one", y.canWin(0), true);
            y.undo();
            CHECKS.is("eleven against nine", y.canWin(1), true);
        });
        CHECKS.holds("Promise 37", words, () -> {
            StickVotes x = crowd(1, 1);
            x.open(2);
            for (int p = 0; p < 20; p++) x.lay(p, p, p < 11 ? 0 : 1);
            CHECKS.is("none is left, 11 against 9", x.canWin(0), true);
            CHECKS.is("none is left, 9 against 11", x.canWin(1), false);
        });
        CHECKS.holds("Promise 37", words, () -> {
            StickVotes x = crowd(11, 1);
            x.open(2);
            x.sail(0, 9);
            CHECKS.is("ten can be laid, NEED is 11", x.canWin(0), false);
            x.comeHome(0);
            CHECKS.is("twenty can be laid, NEED is 11", x.canWin(0), true);
            StickVotes y = crowd(10, 1);
            y.open(2);
            y.sail(0, 9);
            CHECKS.is("ten can be laid, NEED is 10", y.canWin(0), true);
            CHECKS.is("nothing is laid by it", y.value(7), 0);
        });
    }

    private static void canWinWithWhatCanBeLaid() {
        CHECKS.holds("Promise 37", "(at hand of people ashore, or carried by people ashore)", () -> {
            StickVotes x = crowd(10, 1);
            x.give(0, 10, -2);
            x.sail(0, 9);
            x.open(2);
            CHECKS.is("nine at hand, one with a carrier at sea", x.canWin(0), false);
            x.comeHome(0);
            x.takeBack(0);
            x.give(10, 0, -2);
            x.give(0, 11, -2);
            x.sail(0, 9);
            CHECKS.is("nine at hand, one of an owner at sea with a carrier ashore", x.canWin(0), true);
        });
        CHECKS.holds("Promise 37", "were laid into it (by their carriers, wrong ones, too)", () -> {
            StickVotes x = Villages.crowd(Villages.numbers(10, "0 0 0 0", 0, 3, 0, 3, 1), 3, 0, p -> -2);
            x.give(1, 0, 3);
            x.give(2, 0, 3);
            x.open(2);
            CHECKS.is("three, two of them wrong", x.canWin(1), true);
            x.lay(0, 1, 1);
            CHECKS.is("one is laid", x.canWin(1), true);
            x.contest(2, 1);
            CHECKS.is("one is struck", x.canWin(1), false);
        });
    }

    private static void decisive() {
        CHECKS.holds("Promise 38", "(0 if there is none anyway); TOO_LATE without a vote", () -> {
            StickVotes x = crowd(2, 1);
            CHECKS.is("decisive() without a vote", x.decisive(), -5);
            x.open(2);
            CHECKS.is("decisive() of none", x.decisive(), 0);
            x.lay(0, 0, 0);
            CHECKS.is("decisive() of one less than NEED", x.decisive(), 0);
            x.lay(1, 1, 0);
            CHECKS.is("decisive() of NEED", x.decisive(), 2);
            x.lay(2, 2, 0);
            CHECKS.is("decisive() of one more than NEED", x.decisive(), 0);
            x.close();
            CHECKS.is("decisive() of a closed vote", x.decisive(), 0);
        });
        CHECKS.holds("Promise 38", "that the result would be another one (or none) if just this one was struck", () -> {
            StickVotes x = crowd(20, 1);
            x.open(2);
            for (int p = 0; p < 20; p++) x.lay(p, p, 1);
            CHECKS.is("decisive() of twenty with NEED 20", x.decisive(), 20);
            x.close();
            CHECKS.is("decisive() of twenty, closed", x.decisive(), 20);
            StickVotes y = crowd(1, 1);
            y.open(2);
            y.lay(19, 19, 1);
            CHECKS.is("decisive() of one with NEED 1", y.decisive(), 1);
        });
    }

    private static void decisiveSticks() {
        CHECKS.holds("Promise 38", "Returns of how many sticks of the latest vote that are laid and not struck it is so", () -> {
            StickVotes x = crowd(1, 1);
            x.open(2);
            x.lay(0, 0, 1);
            x.lay(1, 1, 0);
            // Without the eldest's stick it is 0's; without the other one it stays 1's.
            CHECKS.is("decisive() of a tie", x.decisive(), 1);
            x.lay(2, 2, 0);
            // 2 against 1: without one of 0's it is a tie that the eldest's basket wins.
            CHECKS.is("decisive() of 2 against 1", x.decisive(), 2);
            x.lay(3, 3, 0);
            CHECKS.is("decisive() of 3 against 1", x.decisive(), 0);
            x.lay(4, 4, 1);
            CHECKS.is("decisive() of 3 against 2", x.decisive(), 3);
        });
        CHECKS.holds("Promise 38", "that are laid and not struck", () -> {
            StickVotes x = crowd(2, 0);
            x.give(1, 0, -2);
            x.open(2);
            x.lay(0, 1, 1);
            x.lay(2, 2, 1);
            x.lay(3, 3, 1);
            CHECKS.is("decisive() of three", x.decisive(), 0);
            x.contest(4, 1);
            CHECKS.is("decisive() of two and a struck one", x.decisive(), 2);
        });
        CHECKS.holds("Promise 38", "(of an open vote, if it was closed now)", () -> {
            StickVotes x = fleet(1, 1);
            x.open(2);
            for (int p = 0; p < 10; p++) x.lay(p, p, 0);
            CHECKS.is("decisive() with NEED 20", x.decisive(), 0);
            x.pass(10);
            CHECKS.is("decisive() with NEED 10", x.decisive(), 10);
            x.close();
            x.pass(10);
            CHECKS.is("decisive() with NEED 10, fixed", x.decisive(), 10);
        });
    }

    private static void lacks() {
        CHECKS.holds("Promise 39", "Returns NEED less the turnout, 0 at least; TOO_LATE if no vote is open.", () -> {
            StickVotes x = crowd(3, 1);
            CHECKS.is("lacks() without a vote", x.lacks(), -5);
            x.open(2);
            for (int turnout = 0; turnout <= 5; turnout++) {
                CHECKS.is("lacks() with " + turnout + " of 3", x.lacks(), Math.max(3 - turnout, 0));
                x.lay(turnout, turnout, 0);
            }
            x.close();
            CHECKS.is("lacks() of a closed vote", x.lacks(), -5);
            StickVotes y = Villages.of(Villages.numbers(9, "0 0 0 0", 0, 20, 1, 3, 1) + "person a;person b;");
            y.open(2);
            CHECKS.is("lacks() with LEAST 20", y.lacks(), 20);
        });
    }

    private static void needInDays() {
        CHECKS.holds("Promise 40", "`days`: 0 to 999", () -> {
            StickVotes x = fleet(1, 1);
            int[] wrongs = {-1, 1000, -2, 1001, Integer.MIN_VALUE, Integer.MAX_VALUE};
            for (int days : wrongs) CHECKS.is("needIn(" + days + ")", x.needIn(days), -1);
            CHECKS.is("needIn(0)", x.needIn(0), 20);
            CHECKS.is("needIn(1)", x.needIn(1), 20);
            CHECKS.is("needIn(998), the season 3", x.needIn(998), 10);
            CHECKS.is("needIn(999), the season 3", x.needIn(999), 10);
            x.pass(1);
            CHECKS.is("needIn(998), the season 3", x.needIn(998), 10);
            CHECKS.is("needIn(999), the season 0", x.needIn(999), 20);
        });
        CHECKS.holds("Promise 40", "(0: as it is now; fixed ones do not matter)", () -> {
            StickVotes x = fleet(1, 1);
            x.sail(0, 99);
            CHECKS.is("needIn(0)", x.needIn(0), 19);
            x.open(2);
            x.close();
            x.comeHome(0);
            x.pass(10);
            CHECKS.is("NEED, fixed", x.value(6), 19);
            CHECKS.is("needIn(0), not fixed", x.needIn(0), 10);
        });
    }

    private static void needIn() {
        CHECKS.holds("Promise 40", "if boats that are out come home on their BACKs and no boat sails.", () -> {
            StickVotes x = fleet(1, 1);
            x.sail(0, 1);
            x.sail(1, 9);
            x.sail(2, 10);
            x.sail(3, 99);
            int[][] rows = {{0, 16}, {1, 17}, {8, 17}, {9, 18}, {10, 9}, {11, 9}, {19, 9}, {20, 19}, {98, 9}, {99, 10}, {100, 20}};
            for (int[] row : rows) CHECKS.is("needIn(" + row[0] + ")", x.needIn(row[0]), row[1]);
        });
        CHECKS.holds("Promise 40", "if boats that are out come home on their BACKs", () -> {
            StickVotes x = fleet(1, 1);
            x.sail(0, 99);
            for (int i = 0; i < 9; i++) x.delay(0, 99);
            CHECKS.is("BACK", x.delay(0, 9), 999);
            CHECKS.is("needIn(998)", x.needIn(998), 9);
            CHECKS.is("needIn(999)", x.needIn(999), 10);
            x.delay(0, 1);
            CHECKS.is("needIn(999), BACK is later", x.needIn(999), 9);
        });
    }

    private static void bestDayDays() {
        CHECKS.holds("Promise 41", "`days`: 1 to 99", () -> {
            StickVotes x = fleet(1, 1);
            int[] wrongs = {0, 100, -1, 101, Integer.MIN_VALUE, Integer.MAX_VALUE};
            for (int days : wrongs) CHECKS.is("bestDay(" + days + ")", x.bestDay(days), -1);
            CHECKS.is("bestDay(1)", x.bestDay(1), 0);
            CHECKS.is("bestDay(99)", x.bestDay(99), 10);
        });
        CHECKS.holds("Promise 41", "Returns the number of days, from 0 to this one", () -> {
            StickVotes x = crowd(1, 1);
            x.sail(0, 99);
            CHECKS.is("bestDay(98), all come behind 99 days", x.bestDay(98), 0);
            CHECKS.is("bestDay(99), all come behind 99 days", x.bestDay(99), 99);
            x.pass(98);
            CHECKS.is("bestDay(1), all come tomorrow", x.bestDay(1), 1);
            x.delay(0, 1);
            CHECKS.is("bestDay(1), all come the day after", x.bestDay(1), 0);
            CHECKS.is("bestDay(2), all come the day after", x.bestDay(2), 2);
        });
    }

    private static void bestDay() {
        CHECKS.holds("Promise 41", "would be greatest (as for needIn()), among several the least", () -> {
            StickVotes x = fleet(0, 1);
            CHECKS.is("bestDay(9), all alike", x.bestDay(9), 0);
            CHECKS.is("bestDay(10), one that is better", x.bestDay(10), 10);
            CHECKS.is("bestDay(19), ten that are better", x.bestDay(19), 10);
            CHECKS.is("bestDay(39), twenty that are better", x.bestDay(39), 10);
            x.pass(10);
            CHECKS.is("bestDay(99), the first is one of the best", x.bestDay(99), 0);
            x.pass(9);
            CHECKS.is("bestDay(99) on the last of them", x.bestDay(99), 0);
            x.pass(1);
            CHECKS.is("bestDay(99) a day later", x.bestDay(99), 10);
        });
        CHECKS.holds("Promise 41", "the number of people ashore less NEED would be greatest", () -> {
            // SHARE 100 of 20, LESS 3: as the boat with one aboard comes home, NEED grows by 3.
            StickVotes x = Villages.crowd(Villages.numbers(100, "100 0 0 0", 3, 1, 1, 3, 1), 20, 2, p -> p == 0 ? 0 : p < 10 ? 1 : -2);
            x.sail(0, 5);
            CHECKS.is("bestDay(9), a boat out helps more", x.bestDay(9), 0);
            x.sail(1, 7);
            CHECKS.is("bestDay(6), a boat out helps more", x.bestDay(6), 0);
            CHECKS.is("bestDay(7), nine come home", x.bestDay(7), 7);
            x.open(2);
            x.close();
            CHECKS.is("bestDay(7), fixed ones do not matter", x.bestDay(7), 7);
        });
        CHECKS.holds("Promise 41", "the number of people ashore less NEED would be greatest", () -> {
            // With LESS 3 and three aboard, the coming home changes nothing.
            StickVotes x = Villages.crowd(Villages.numbers(100, "100 0 0 0", 3, 1, 1, 3, 1), 20, 1, p -> p < 3 ? 0 : -2);
            x.sail(0, 5);
            CHECKS.is("bestDay(99), all alike", x.bestDay(99), 0);
            StickVotes y = Villages.crowd(Villages.numbers(100, "100 0 0 0", 3, 1, 1, 3, 1), 20, 1, p -> p < 4 ? 0 : -2);
            y.sail(0, 5);
            CHECKS.is("bestDay(99), one more aboard", y.bestDay(99), 5);
            // Somebody who has joined is ashore all the time.
            StickVotes z = Villages.crowd(Villages.numbers(100, "100 0 0 0", 3, 1, 1, 3, 1), 20, 1, p -> p < 3 ? 0 : -2);
            z.sail(0, 5);
            z.join(9, 0);
            CHECKS.is("bestDay(99), one has joined", z.bestDay(99), 0);
        });
    }

    private static void bestDayOfTwoBoats() {
        CHECKS.holds("Promise 41", "the number of people ashore less NEED would be greatest", () -> {
            // Three come home behind 5 days, and stay; one more behind 7; then nothing changes.
            StickVotes x = Villages.crowd(Villages.numbers(100, "0 0 0 0", 0, 1, 1, 3, 1), 20, 2, p -> p < 3 ? 0 : p == 3 ? 1 : -2);
            x.sail(0, 5);
            x.sail(1, 7);
            int[] due = {0, 0, 0, 0, 5, 5, 7, 7, 7};
            for (int days = 1; days <= 9; days++) CHECKS.is("bestDay(" + days + ")", x.bestDay(days), due[days - 1]);
            CHECKS.is("bestDay(99)", x.bestDay(99), 7);
            x.pass(5);
            CHECKS.is("bestDay(1) on the day 5", x.bestDay(1), 0);
            CHECKS.is("bestDay(2) on the day 5", x.bestDay(2), 2);
        });
    }

    private static void mightiest() {
        CHECKS.holds("Promise 42", "NOT_FOUND if that is 0 or less for all.", () -> {
            StickVotes x = crowd(1, 1);
            CHECKS.is("nobody carries", x.mightiest(), -2);
            x.give(10, 3, -2);
            x.give(11, 3, -2);
            CHECKS.is("all owners are ashore", x.mightiest(), -2);
            x.sail(0, 9);
            CHECKS.is("1", x.mightiest(), 3);
            x.open(2);
            CHECKS.is("1 in a vote", x.mightiest(), 3);
            x.lay(3, 10, 0);
            CHECKS.is("1 less 1", x.mightiest(), -2);
            x.lay(3, 11, 0);
            CHECKS.is("0 less 2", x.mightiest(), -2);
            x.close();
            CHECKS.is("none is carried, as it is laid", x.mightiest(), -2);
            x.open(2);
            CHECKS.is("1 in the next vote", x.mightiest(), 3);
        });
        CHECKS.holds("Promise 42", "CARRY at most counted", () -> {
            for (int carry = 0; carry <= 9; carry += 3) {
                StickVotes x = crowd(1, carry);
                for (int p = 10; p < 20; p++) x.give(p, p < 10 + carry ? 7 : 5, -2);
                x.sail(0, 9);
                int five = Math.min(10 - carry, carry);
                int due = carry == 0 ? -2 : five == carry ? 5 : 7;
                CHECKS.is("mightiest() with CARRY " + carry, x.mightiest(), due);
            }
        });
        CHECKS.holds("Promise 42", "and then less those that the person laid for others in an open vote", () -> {
            StickVotes x = crowd(1, 2);
            for (int p = 10; p < 14; p++) x.give(p, 5, -2);
            x.give(14, 6, -2);
            x.give(4, 5, -2);
            x.sail(0, 9);
            x.open(2);
            x.lay(5, 4, 0);
            CHECKS.is("2 less 1 against 1", x.mightiest(), 5);
            x.lay(5, 10, 0);
            CHECKS.is("2 less 2 against 1", x.mightiest(), 6);
            x.contest(9, 4);
            CHECKS.is("struck ones, too", x.mightiest(), 6);
            x.close();
            CHECKS.is("none is open: 2 against 1", x.mightiest(), 5);
        });
    }

    private static void mightiestOfSeveral() {
        CHECKS.holds("Promise 42", "among several the eldest", () -> {
            StickVotes x = crowd(1, 9);
            x.give(10, 9, -2);
            x.give(11, 4, -2);
            x.give(12, 0, -2);
            x.sail(0, 9);
            CHECKS.is("three with 1", x.mightiest(), 0);
            x.undo();
            x.give(13, 9, -2);
            x.sail(0, 9);
            CHECKS.is("one with 2", x.mightiest(), 9);
            x.undo();
            x.give(14, 4, -2);
            x.sail(0, 9);
            CHECKS.is("two with 2", x.mightiest(), 4);
        });
        CHECKS.holds("Promise 42", "Returns of all people ashore the one who carries the most sticks of people at sea", () -> {
            StickVotes x = crowd(1, 9);
            x.give(10, 11, -2);
            x.give(12, 11, -2);
            x.give(13, 19, -2);
            x.give(1, 2, -2);
            x.give(14, 3, -2);
            x.sail(0, 9);
            CHECKS.is("carriers at sea, owners ashore", x.mightiest(), 3);
            StickVotes y = Villages.crowd(Villages.numbers(10, "0 0 0 0", 0, 1, 1, 3, 1), 20, 1, p -> p == 0 ? 0 : -2);
            y.give(0, 19, -2);
            y.sail(0, 9);
            CHECKS.is("the youngest one", y.mightiest(), 19);
        });
    }
}
