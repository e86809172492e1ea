/**
 * The sentences of DOC.md that name a boundary: contests, results and the log (sections 3, 4 and 6),
 * and promises 14 to 16, 21, 27, 28, 43 and 44. What is refused is in BoundsRefusalsTest, too.
 */
public final class BoundsResultsTest {
    private static final Checks CHECKS = new Checks("BoundsResultsTest");

    private BoundsResultsTest() {
    }

    public static void main(String[] args) {
        contestTime();
        contestFaults();
        contestReturns();
        counts();
        need();
        needLess();
        needIsFixed();
        results();
        ties();
        strikesBehindTheClosing();
        recounts();
        recountReturns();
        close();
        logKeepsThirty();
        logComesRound();
        logKinds();
        logOfStrikes();
        logPart();
        past();
        pastComesRound();
        pastAsStrikesLeftIt();
        valueInvalid();
        valuesOfTheSea();
        valuesOfTheVote();
        valuesOfSticks();
        agrees();
        share();
        CHECKS.end();
    }

    private static String numbers(int least, int carry, int appeal, int recounts) {
        return Villages.numbers(10, "0 0 0 0", 0, least, carry, appeal, recounts);
    }

    /** Twenty people, those from 10 on of the boat 0; NEED is LEAST. */
    private static StickVotes crowd(int least, int carry, int appeal, int recounts) {
        return Villages.crowd(numbers(least, carry, appeal, recounts), 20, 1, p -> p < 10 ? -2 : 0);
    }

    private static void contestTime() {
        int[] appeals = {0, 1, 29, 30};
        for (int appeal : appeals) {
            CHECKS.holds("Section 3", "DAY is at most the day of its closing plus APPEAL.", () -> {
                StickVotes x = crowd(1, 1, appeal, 3);
                x.open(2);
                x.lay(0, 0, 0);
                x.pass(7);
                x.close();
                CHECKS.is("contest(1, 0) on the day of the closing", x.contest(1, 0), 0);
                if (appeal > 0) x.pass(appeal);
                CHECKS.is("value(8) on the last day", x.value(8), 2);
                CHECKS.is("contest(2, 0) on the last day", x.contest(2, 0), 0);
                CHECKS.is("recount() on the last day", x.recount(), 0);
                x.pass(1);
                CHECKS.is("value(8) a day later", x.value(8), 3);
                CHECKS.is("contest(3, 0) a day later", x.contest(3, 0), -5);
                CHECKS.is("recount() a day later", x.recount(), -5);
                CHECKS.is("faults", x.person(3, 3), 0);
            });
        }
        CHECKS.holds("Section 3", "A person who is ashore can contest a stick that is laid and not struck (also the own one), as long as the vote is open", () -> {
            StickVotes x = crowd(1, 1, 0, 0);
            x.give(1, 2, -2);
            x.open(2);
            x.lay(0, 0, 0);
            x.lay(2, 1, 0);
            x.pass(99);
            CHECKS.is("contest(0, 0), the own one", x.contest(0, 0), 0);
            CHECKS.is("contest(1, 1), the own one, wrong", x.contest(1, 1), 1);
            CHECKS.is("contest(3, 0) behind 99 days", x.contest(3, 0), 0);
        });
        CHECKS.holds("Section 3", "as long as it is the latest one", () -> {
            StickVotes x = crowd(1, 1, 30, 3);
            x.open(2);
            x.lay(0, 0, 0);
            x.close();
            x.open(2);
            CHECKS.is("contest() of a vote ahead", x.contest(1, 0), -4);
            x.close();
            CHECKS.is("contest() of a vote ahead, none is open", x.contest(1, 0), -4);
            CHECKS.is("recount() of the latest one", x.recount(), 0);
            CHECKS.is("the one ahead is as it was", x.past(0, 1), 1);
        });
    }

    private static void contestFaults() {
        CHECKS.holds("Section 3", "if it is right, that person has a fault; with 3 faults a person can contest no more", () -> {
            StickVotes x = crowd(1, 1, 3, 1);
            x.give(1, 2, -2);
            x.open(2);
            x.lay(0, 0, 0);
            x.lay(2, 1, 0);
            for (int faults = 1; faults <= 3; faults++) {
                CHECKS.is("contest(3, 0) " + faults, x.contest(3, 0), 0);
                CHECKS.is("faults", x.person(3, 3), faults);
                CHECKS.is("log of the fault", Villages.entry(x, 2 + faults), "0 5 3 " + faults);
            }
            CHECKS.is("contest(3, 0) with 3 faults", x.contest(3, 0), -4);
            CHECKS.is("contest(3, 1), a wrong one, with 3 faults", x.contest(3, 1), -4);
            CHECKS.is("faults", x.person(3, 3), 3);
            CHECKS.is("contest(4, 1)", x.contest(4, 1), 1);
        });
        CHECKS.holds("Section 3", "if it is right, that person has a fault", () -> {
            StickVotes x = crowd(1, 1, 3, 1);
            x.give(1, 2, -2);
            x.open(2);
            x.lay(0, 0, 0);
            x.lay(2, 1, 0);
            x.contest(3, 0);
            x.contest(3, 0);
            CHECKS.is("a wrong one with 2 faults", x.contest(3, 1), 1);
            CHECKS.is("faults", x.person(3, 3), 2);
            CHECKS.is("the right one stays", x.stick(0, 0), 2);
            CHECKS.is("others have none", x.person(0, 3) + x.person(1, 3) + x.person(2, 3), 0);
        });
        CHECKS.holds("Section 3", "(faults stay for good, from vote to vote)", () -> {
            StickVotes x = crowd(1, 1, 0, 1);
            for (int vote = 0; vote < 5; vote++) {
                x.open(2);
                x.lay(0, 0, 0);
                CHECKS.is("contest(3, 0) in vote " + vote, x.contest(3, 0), vote < 3 ? 0 : -4);
                x.close();
                x.pass(9);
                CHECKS.is("faults behind vote " + vote, x.person(3, 3), Math.min(vote + 1, 3));
            }
        });
    }

    private static void contestReturns() {
        CHECKS.holds("Promise 14", "Returns the reason for which it is struck (1 to 3), 0 if it is right", () -> {
            StickVotes x = crowd(1, 1, 3, 1);
            x.give(1, 0, -2);
            x.give(10, 2, -2);
            x.give(11, 2, -2);
            x.give(12, 3, 1);
            x.sail(0, 9);
            x.open(2);
            x.lay(0, 1, 0);
            x.lay(2, 10, 0);
            x.lay(2, 11, 0);
            x.lay(3, 12, 0);
            CHECKS.is("owner ashore", x.contest(4, 1), 1);
            CHECKS.is("too many", x.contest(4, 11), 2);
            CHECKS.is("another basket", x.contest(4, 12), 3);
            CHECKS.is("faults for these", x.person(4, 3), 0);
            CHECKS.is("a right one", x.contest(4, 10), 0);
            CHECKS.is("a fault for it", x.person(4, 3), 1);
        });
        CHECKS.holds("Promise 14", "INVALID for an invalid argument", () -> {
            StickVotes x = crowd(1, 1, 3, 1);
            x.open(2);
            x.lay(0, 0, 0);
            x.lay(9, 9, 0);
            int[] wrongs = {-1, 20, -2, Integer.MIN_VALUE, Integer.MAX_VALUE};
            for (int p : wrongs) {
                CHECKS.is("contest(" + p + ", 0)", x.contest(p, 0), -1);
                CHECKS.is("contest(0, " + p + ")", x.contest(0, p), -1);
            }
            CHECKS.is("contest(19, 0)", x.contest(19, 0), 0);
            CHECKS.is("contest(0, 9)", x.contest(0, 9), 0);
        });
    }

    private static void counts() {
        CHECKS.holds("Section 4", "The count of a basket is the number of sticks in it that are not struck; the turnout is the sum of all counts.", () -> {
            StickVotes x = crowd(1, 0, 3, 1);
            x.open(4);
            CHECKS.is("turnout of none", x.value(7), 0);
            for (int p = 0; p < 20; p++) x.lay(p, p, p % 4);
            CHECKS.is("turnout of all", x.value(7), 20);
            for (int b = 0; b < 4; b++) CHECKS.is("basket(" + b + ")", x.basket(b), 5);
            StickVotes y = crowd(1, 0, 3, 1);
            for (int p = 1; p < 20; p++) y.give(p, 0, -2);
            y.open(2);
            for (int p = 0; p < 20; p++) y.lay(0, p, 1);
            y.close();
            y.recount();
            CHECKS.is("turnout behind 19 strikes", y.value(7), 1);
            CHECKS.is("basket(1) behind 19 strikes", y.basket(1), 1);
        });
    }

    private static void need() {
        String words = "NEED is SHARE of the season times the number of people, divided by 100 and rounded up";
        CHECKS.holds("Section 4", words, () -> {
            int[][] rows = {{0, 1}, {1, 1}, {5, 1}, {6, 2}, {10, 2}, {11, 3}, {50, 10}, {51, 11}, {94, 19}, {95, 19},
                {96, 20}, {99, 20}, {100, 20}};
            for (int[] row : rows) {
                StickVotes x = Villages.crowd(Villages.numbers(9, row[0] + " 0 0 0", 0, 1, 1, 3, 1), 20, 0, p -> -2);
                CHECKS.is("NEED of 20 with SHARE " + row[0], x.value(6), row[1]);
            }
        });
        CHECKS.holds("Section 4", words, () -> {
            int[][] rows = {{2, 50, 1}, {2, 51, 2}, {2, 100, 2}, {3, 33, 1}, {3, 34, 2}, {3, 66, 2}, {3, 67, 3},
                {7, 14, 1}, {7, 15, 2}, {7, 99, 7}, {19, 100, 19}, {19, 99, 19}, {19, 94, 18}};
            for (int[] row : rows) {
                StickVotes x = Villages.crowd(Villages.numbers(9, row[1] + " 0 0 0", 0, 1, 1, 3, 1), row[0], 0, p -> -2);
                CHECKS.is("NEED of " + row[0] + " with SHARE " + row[1], x.value(6), row[2]);
            }
        });
        CHECKS.holds("Section 4", "but LEAST at least (also if that is more than there are people)", () -> {
            StickVotes x = Villages.of(Villages.numbers(9, "100 0 0 0", 0, 20, 1, 3, 1) + "person a;person b;");
            CHECKS.is("NEED", x.value(6), 20);
            x.open(2);
            x.lay(0, 0, 0);
            x.lay(1, 1, 0);
            CHECKS.is("lacks()", x.lacks(), 18);
            x.close();
            CHECKS.is("result", x.value(10), -2);
            CHECKS.is("past NEED", x.past(0, 2), 20);
            int[][] rows = {{1, 5}, {4, 5}, {5, 5}, {6, 6}, {20, 20}};
            for (int[] row : rows) {
                StickVotes y = Villages.crowd(Villages.numbers(9, "50 0 0 0", 0, row[0], 1, 3, 1), 10, 0, p -> -2);
                CHECKS.is("NEED of 5 with LEAST " + row[0], y.value(6), row[1]);
            }
        });
    }

    private static void needLess() {
        CHECKS.holds("Section 4", "less LESS for each boat that is out, but LEAST at least", () -> {
            int[] lesses = {0, 1, 3, 9};
            for (int less : lesses) {
                StickVotes x = Villages.crowd(Villages.numbers(9, "100 0 0 0", less, 2, 1, 3, 1), 20, 6, p -> p % 6);
                for (int out = 0; out <= 6; out++) {
                    CHECKS.is("NEED with LESS " + less + " and " + out + " boats out", x.value(6), Math.max(20 - less * out, 2));
                    CHECKS.is("needIn(0)", x.needIn(0), Math.max(20 - less * out, 2));
                    x.sail(out, 9);
                }
                x.comeHome(3);
                CHECKS.is("NEED with 5 boats out", x.value(6), Math.max(20 - less * 5, 2));
            }
        });
        CHECKS.holds("Section 4", "less LESS for each boat that is out", () -> {
            StickVotes x = Villages.crowd(Villages.numbers(9, "33 0 0 0", 1, 1, 1, 3, 1), 10, 1, p -> -2);
            CHECKS.is("rounded up", x.value(6), 4);
            x.sail(0, 1);
            CHECKS.is("rounded up, then less LESS, without anybody aboard", x.value(6), 3);
            x.pass(1);
            CHECKS.is("at home again", x.value(6), 4);
        });
    }

    private static void needIsFixed() {
        CHECKS.holds("Section 4", "When a vote is closed, NEED is fixed as it is on this day.", () -> {
            StickVotes x = Villages.port();
            x.open(2);
            x.lay(0, 0, 0);
            x.lay(2, 2, 0);
            x.pass(9);
            CHECKS.is("NEED on the last day of the season", x.value(6), 3);
            x.close();
            x.pass(1);
            CHECKS.is("NEED, fixed, in the next season", x.value(6), 3);
            CHECKS.is("result", x.value(10), -2);
            CHECKS.is("NEED of the day", x.needIn(0), 2);
            x.undo();
            x.undo();
            x.pass(1);
            x.close();
            CHECKS.is("NEED on the first day of the next season", x.value(6), 2);
            CHECKS.is("result of the same sticks", x.value(10), 0);
        });
        CHECKS.holds("Promise 21", "6 NEED as it is now (of a vote that is closed, as it is fixed, if it is the latest one)", () -> {
            StickVotes x = Villages.port();
            CHECKS.is("NEED without a vote", x.value(6), 3);
            x.sail(0, 20);
            CHECKS.is("NEED without a vote, a boat out", x.value(6), 2);
            x.open(2);
            x.close();
            x.comeHome(0);
            CHECKS.is("NEED of a closed vote", x.value(6), 2);
            x.open(2);
            CHECKS.is("NEED when the next is open", x.value(6), 3);
            x.undo();
            CHECKS.is("NEED of the closed vote again", x.value(6), 2);
        });
    }

    private static void results() {
        CHECKS.holds("Section 4", "none if the turnout is less than NEED", () -> {
            for (int turnout = 0; turnout <= 7; turnout++) {
                StickVotes x = crowd(6, 1, 3, 1);
                x.open(2);
                for (int p = 0; p < turnout; p++) x.lay(p, p, 1);
                int due = turnout < 6 ? -2 : 1;
                CHECKS.is("leads() with " + turnout + " of 6", x.leads(), due);
                CHECKS.is("close()", x.close(), turnout);
                CHECKS.is("result with " + turnout + " of 6", x.value(10), due);
                CHECKS.is("past result", x.past(0, 3), due);
                CHECKS.is("log of the result", x.log(turnout + 1, 3), due == -2 ? -1 : due);
            }
        });
        CHECKS.holds("Section 4", "otherwise the basket with the greatest count", () -> {
            for (int basket = 0; basket < 4; basket++) {
                StickVotes x = crowd(1, 1, 3, 1);
                x.open(4);
                for (int p = 0; p < 4; p++) x.lay(p, p, p);
                x.lay(19, 19, basket);
                CHECKS.is("leads() of 2 against 1", x.leads(), basket);
                x.close();
                CHECKS.is("result of 2 against 1", x.value(10), basket);
            }
            StickVotes y = crowd(20, 1, 3, 1);
            y.open(2);
            for (int p = 0; p < 20; p++) y.lay(p, p, p < 9 ? 0 : 1);
            CHECKS.is("leads() of 11 against 9", y.leads(), 1);
        });
    }

    private static void ties() {
        String words = "of several such baskets the one that has the stick (not struck) of the eldest one of all whose sticks lie in one of these.";
        CHECKS.holds("Section 4", words, () -> {
            for (int basket = 0; basket < 4; basket++) {
                StickVotes x = crowd(1, 1, 3, 1);
                x.open(4);
                for (int p = 0; p < 4; p++) x.lay(p, p, (basket + p) % 4);
                CHECKS.is("leads() of four with 1", x.leads(), basket);
                for (int p = 19; p > 15; p--) x.lay(p, p, p % 4);
                CHECKS.is("leads() of four with 2", x.leads(), basket);
            }
        });
        CHECKS.holds("Section 4", words, () -> {
            StickVotes x = crowd(1, 1, 3, 1);
            x.open(3);
            x.lay(0, 0, 0);
            x.lay(1, 1, 2);
            x.lay(2, 2, 1);
            x.lay(3, 3, 1);
            x.lay(4, 4, 2);
            CHECKS.is("the eldest one of all in a lesser basket", x.leads(), 2);
            x.lay(19, 19, 0);
            CHECKS.is("the eldest one of all", x.leads(), 0);
        });
        CHECKS.holds("Section 4", words, () -> {
            StickVotes x = crowd(1, 1, 3, 1);
            x.give(0, 5, -2);
            x.open(2);
            x.lay(5, 0, 0);
            x.lay(2, 2, 0);
            x.lay(1, 1, 1);
            x.contest(9, 0);
            CHECKS.is("the eldest one's stick is struck", x.leads(), 1);
            x.lay(18, 18, 1);
            x.lay(19, 19, 0);
            CHECKS.is("of 2 with 2", x.leads(), 1);
        });
        CHECKS.holds("Section 4", words, () -> {
            StickVotes x = crowd(1, 1, 3, 1);
            x.open(2);
            x.lay(19, 19, 0);
            x.lay(18, 18, 1);
            CHECKS.is("the two youngest", x.leads(), 1);
        });
    }

    private static void strikesBehindTheClosing() {
        String words = "When a stick is struck behind the closing, the result is that of the sticks left then, with the same NEED.";
        CHECKS.holds("Section 4", words, () -> {
            StickVotes x = Villages.crowd(Villages.numbers(5, "10 50 50 50", 0, 1, 1, 9, 1), 20, 0, p -> -2);
            for (int p = 0; p < 3; p++) x.give(p, 19, -2);
            x.open(2);
            for (int p = 0; p < 3; p++) x.lay(19, p, 0);
            x.lay(18, 18, 1);
            x.close();
            CHECKS.is("result", x.value(10), 0);
            x.pass(5);
            CHECKS.is("NEED is the same", x.value(6), 2);
            CHECKS.is("NEED of the day", x.needIn(0), 10);
            int[] due = {0, 0, -2};
            for (int p = 0; p < 3; p++) {
                x.contest(9, p);
                CHECKS.is("result of " + (3 - p), x.value(10), due[p]);
                CHECKS.is("past(0, 1) of " + (3 - p), x.past(0, 1), 3 - p);
                CHECKS.is("past(0, 2) of " + (3 - p), x.past(0, 2), 2);
                CHECKS.is("past(0, 3) of " + (3 - p), x.past(0, 3), due[p]);
            }
            // Opened, laid four times, closed, struck three times; then it turns.
            CHECKS.is("entries", x.value(14), 10);
            CHECKS.is("log of the turn", Villages.entry(x, 9), "5 7 0 -1");
        });
        CHECKS.holds("Section 4", words, () -> {
            StickVotes x = Villages.crowd(Villages.numbers(5, "10 50 50 50", 0, 1, 1, 9, 1), 20, 0, p -> -2);
            x.give(0, 19, -2);
            x.open(2);
            x.lay(19, 0, 0);
            for (int p = 1; p < 3; p++) x.lay(p, p, 1);
            x.close();
            x.pass(5);
            CHECKS.is("recount()", x.recount(), 1);
            CHECKS.is("result of a recount with the same NEED", x.past(0, 3), 1);
            CHECKS.is("entries, no turn", x.value(14), 6);
        });
        CHECKS.holds("Section 4", words, () -> {
            StickVotes x = crowd(1, 1, 9, 1);
            x.give(0, 19, -2);
            x.open(2);
            x.lay(19, 0, 0);
            x.lay(18, 18, 1);
            x.close();
            CHECKS.is("result of a tie", x.value(10), 0);
            x.contest(9, 0);
            CHECKS.is("result of the other one", x.value(10), 1);
        });
    }

    private static void recounts() {
        for (int recounts = 0; recounts <= 3; recounts++) {
            int most = recounts;
            CHECKS.holds("Section 4", "RECOUNTS times for each vote (also if no stick is struck)", () -> {
                StickVotes x = crowd(1, 1, 30, most);
                for (int vote = 0; vote < 2; vote++) {
                    x.open(2);
                    x.close();
                    for (int i = 0; i < most; i++) {
                        CHECKS.is("recounts made", x.value(12), i);
                        CHECKS.is("recount() " + i, x.recount(), 0);
                    }
                    CHECKS.is("recount() beyond " + most, x.recount(), -5);
                    CHECKS.is("recounts made", x.value(12), most);
                    CHECKS.is("state", x.value(8), 2);
                }
            });
        }
        CHECKS.holds("Section 4", "A recount can be made as long as sticks of a closed vote can be contested", () -> {
            StickVotes x = crowd(1, 1, 2, 3);
            CHECKS.is("recount() without a vote", x.recount(), -5);
            x.open(2);
            CHECKS.is("recount() of an open vote", x.recount(), -5);
            x.close();
            x.pass(2);
            CHECKS.is("recount() on the last day", x.recount(), 0);
            x.pass(1);
            CHECKS.is("recount() a day later", x.recount(), -5);
            x.undo();
            CHECKS.is("recount() on the last day again", x.recount(), 0);
        });
    }

    private static void recountReturns() {
        CHECKS.holds("Section 4", "all wrong sticks that are not struck are struck.", () -> {
            StickVotes x = crowd(1, 0, 3, 3);
            for (int p = 0; p < 19; p++) x.give(p, 19, -2);
            x.give(19, 0, -2);
            x.open(2);
            x.lay(0, 19, 1);
            for (int p = 0; p < 19; p++) x.lay(19, p, 0);
            x.contest(5, 3);
            x.close();
            CHECKS.is("value(16)", x.value(16), 19);
            CHECKS.is("recount() strikes all others", x.recount(), 19);
            CHECKS.is("struck ones", x.value(11), 20);
            CHECKS.is("turnout", x.value(7), 0);
            CHECKS.is("value(16)", x.value(16), 0);
            CHECKS.is("recount() again strikes none", x.recount(), 0);
        });
        CHECKS.holds("Promise 16", "Returns how many sticks are struck", () -> {
            StickVotes x = crowd(1, 0, 3, 3);
            for (int p = 1; p < 20; p++) x.give(p, 0, -2);
            x.give(0, 1, -2);
            x.open(2);
            for (int p = 1; p < 20; p++) x.lay(0, p, 0);
            x.lay(1, 0, 0);
            x.close();
            CHECKS.is("recount() of twenty", x.recount(), 20);
            StickVotes y = crowd(1, 0, 3, 3);
            y.open(2);
            y.lay(0, 0, 0);
            y.close();
            CHECKS.is("recount() of right ones", y.recount(), 0);
            CHECKS.is("a right one stays", y.stick(0, 0), 2);
        });
    }

    private static void close() {
        CHECKS.holds("Promise 15", "Returns its turnout", () -> {
            StickVotes x = crowd(1, 1, 3, 1);
            x.open(2);
            CHECKS.is("close() of none", x.close(), 0);
            x.open(2);
            for (int p = 0; p < 20; p++) x.lay(p, p, p % 2);
            CHECKS.is("close() of all", x.close(), 20);
            x.give(1, 2, -2);
            x.open(2);
            x.takeBack(1);
            x.give(1, 2, -2);
            x.lay(2, 1, 0);
            x.contest(3, 1);
            CHECKS.is("close() of a struck one", x.close(), 0);
        });
        CHECKS.holds("Promise 15", "TOO_LATE if none is open.", () -> {
            StickVotes x = crowd(1, 1, 3, 1);
            CHECKS.is("close() without a vote", x.close(), -5);
            x.open(2);
            x.close();
            CHECKS.is("close() of a closed vote", x.close(), -5);
            x.pass(9);
            CHECKS.is("close() of one that is closed for good", x.close(), -5);
            CHECKS.is("entries", x.value(14), 2);
        });
    }

    /** A village with so many entries in the log: a boat sails on the days 0, 1, .. and comes home on each. */
    private static StickVotes logged(int entries) {
        StickVotes x = Villages.port();
        for (int i = 0; i < entries; i++) {
            if (i % 2 == 0) {
                x.sail(1, 50);
            } else {
                x.comeHome(1);
                x.pass(1);
            }
        }
        return x;
    }

    private static void logKeepsThirty() {
        String words = "The log has the latest 30 entries, each with a day, a kind, and two numbers";
        CHECKS.holds("Section 6", words, () -> {
            StickVotes x = Villages.port();
            CHECKS.is("value(14) of none", x.value(14), 0);
            for (int what = 0; what < 4; what++) CHECKS.is("log(0, " + what + ") of none", x.log(0, what), -2);
        });
        int[] sizes = {1, 29, 30, 31, 32, 59, 60, 61, 90, 91};
        for (int size : sizes) {
            CHECKS.holds("Section 6", words, () -> {
                StickVotes x = logged(size);
                int kept = Math.min(size, 30);
                CHECKS.is("value(14) of " + size, x.value(14), kept);
                for (int i = 0; i < kept; i++) {
                    int entry = size - kept + i;
                    int day = entry / 2;
                    String due = day + (entry % 2 == 0 ? " 0 1 " + (day + 50) : " 1 1 1");
                    CHECKS.is("log " + i + " of " + size, Villages.entry(x, i), due);
                }
                CHECKS.is("log(" + kept + ", 0) of " + size, x.log(kept, 0), -2);
                CHECKS.is("log(" + (kept + 1) + ", 0) of " + size, x.log(kept + 1, 0), -2);
            });
        }
    }

    private static void logComesRound() {
        CHECKS.holds("Section 6", "The log has the latest 30 entries", () -> {
            StickVotes x = Villages.crowd(numbers(1, 0, 30, 3), 20, 0, p -> -2);
            for (int p = 1; p < 20; p++) x.give(p, 0, -2);
            x.give(0, 1, -2);
            x.open(2);
            for (int p = 1; p < 20; p++) x.lay(0, p, 1);
            x.lay(1, 0, 1);
            x.close();
            CHECKS.is("entries", x.value(14), 22);
            CHECKS.is("recount()", x.recount(), 20);
            // 43 entries by now: 13 are gone, so that the oldest one lays the stick of 13.
            CHECKS.is("entries", x.value(14), 30);
            CHECKS.is("the oldest one", Villages.entry(x, 0), "0 3 13 1");
            CHECKS.is("ahead of the strikes", Villages.entry(x, 8), "0 6 0 1");
            for (int p = 0; p < 20; p++) CHECKS.is("strike " + p, Villages.entry(x, 9 + p), "0 4 " + p + " 1");
            CHECKS.is("the turn", Villages.entry(x, 29), "0 7 0 -1");
        });
        CHECKS.holds("Section 6", "The log has the latest 30 entries", () -> {
            StickVotes x = logged(30);
            String oldest = Villages.entry(x, 0);
            x.sail(0, 9);
            CHECKS.is("the oldest one is gone", Villages.entry(x, 0), "0 1 1 1");
            x.undo();
            CHECKS.is("entries behind undo()", x.value(14), 30);
            CHECKS.is("the oldest one behind undo()", Villages.entry(x, 0), oldest);
            x.keep(0);
            for (int i = 0; i < 40; i++) {
                x.sail(0, 9);
                x.comeHome(0);
            }
            x.restore(0);
            CHECKS.is("entries behind restore()", x.value(14), 30);
            CHECKS.is("the oldest one behind restore()", Villages.entry(x, 0), oldest);
            CHECKS.is("the latest one behind restore()", Villages.entry(x, 29), "14 1 1 1");
        });
    }

    private static void logKinds() {
        CHECKS.holds("Section 6", "0 a boat sails (the boat, its BACK), 1 a boat comes home (the boat, how many come home with it)", () -> {
            StickVotes x = Villages.crowd(numbers(1, 1, 3, 1), 20, 6, p -> 5);
            x.pass(5);
            x.sail(0, 1);
            x.sail(5, 99);
            x.delay(5, 99);
            x.pass(1);
            x.comeHome(5);
            String[] due = {"5 0 0 6", "5 0 5 104", "6 1 0 0", "6 1 5 20"};
            for (int i = 0; i < 4; i++) CHECKS.is("log " + i, Villages.entry(x, i), due[i]);
            CHECKS.is("entries", x.value(14), 4);
        });
        CHECKS.holds("Section 6", "2 a vote opens (its number, its baskets), 3 a stick is laid (its owner, the basket)", () -> {
            StickVotes x = crowd(1, 1, 3, 1);
            x.give(19, 0, -2);
            x.open(4);
            x.lay(0, 19, 3);
            x.lay(0, 0, 0);
            x.close();
            x.open(2);
            String[] due = {"0 2 0 4", "0 3 19 3", "0 3 0 0", "0 6 0 0", "0 2 1 2"};
            for (int i = 0; i < 5; i++) CHECKS.is("log " + i, Villages.entry(x, i), due[i]);
            CHECKS.is("entries", x.value(14), 5);
        });
        CHECKS.holds("Section 6", "6 a vote is closed (its number, its result or -1)", () -> {
            StickVotes x = crowd(2, 1, 3, 1);
            x.open(4);
            x.close();
            x.open(4);
            x.lay(0, 0, 3);
            x.lay(1, 1, 3);
            x.pass(3);
            x.close();
            CHECKS.is("log without a result", Villages.entry(x, 1), "0 6 0 -1");
            CHECKS.is("log of a result", Villages.entry(x, 5), "3 6 1 3");
        });
    }

    private static void logOfStrikes() {
        CHECKS.holds("Section 6", "A recount logs its strikes by ascending owners, then 7, if the result changes by all of them.", () -> {
            StickVotes x = crowd(1, 0, 3, 2);
            int[] owners = {7, 3, 5, 1};
            for (int owner : owners) x.give(owner, 0, -2);
            x.open(2);
            for (int owner : owners) x.lay(0, owner, 1);
            x.lay(0, 0, 0);
            x.close();
            int entries = x.value(14);
            CHECKS.is("recount()", x.recount(), 4);
            String[] due = {"0 4 1 1", "0 4 3 1", "0 4 5 1", "0 4 7 1", "0 7 0 0"};
            for (int i = 0; i < due.length; i++) CHECKS.is("log " + i, Villages.entry(x, entries + i), due[i]);
            CHECKS.is("entries", x.value(14), entries + 5);
            CHECKS.is("recount() again", x.recount(), 0);
            CHECKS.is("entries, nothing changes", x.value(14), entries + 5);
        });
        CHECKS.holds("Section 6", "then 7, if the result changes by all of them.", () -> {
            // One by one the strikes would turn it to 1 and back to 0; by all of them it stays 0.
            StickVotes x = crowd(1, 0, 3, 2);
            x.give(1, 9, -2);
            x.give(2, 9, -2);
            x.open(2);
            x.lay(0, 0, 0);
            x.lay(9, 1, 0);
            x.lay(9, 2, 1);
            x.lay(8, 8, 1);
            x.close();
            CHECKS.is("result", x.value(10), 0);
            int entries = x.value(14);
            CHECKS.is("recount()", x.recount(), 2);
            CHECKS.is("result behind it", x.value(10), 0);
            CHECKS.is("entries, two strikes and no turn", x.value(14), entries + 2);
        });
        CHECKS.holds("Section 6", "7 the result of a closed vote changes (the number of the vote, the new result or -1)", () -> {
            StickVotes x = crowd(2, 0, 3, 2);
            x.open(2);
            x.close();
            x.give(0, 9, -2);
            x.give(1, 9, -2);
            x.open(2);
            x.lay(9, 0, 0);
            x.lay(9, 1, 0);
            x.lay(8, 8, 1);
            x.close();
            int entries = x.value(14);
            x.contest(7, 1);
            CHECKS.is("a strike, no turn", x.value(14), entries + 1);
            x.contest(7, 0);
            CHECKS.is("a strike and a turn", x.value(14), entries + 3);
            CHECKS.is("log of the strike", Villages.entry(x, entries + 1), "0 4 0 1");
            CHECKS.is("log of the turn to none", Villages.entry(x, entries + 2), "0 7 1 -1");
        });
        CHECKS.holds("Section 6", "4 a stick is struck (its owner, the reason), 5 somebody has a fault (the person, the faults then)", () -> {
            StickVotes x = crowd(1, 0, 3, 2);
            x.give(0, 9, -2);
            x.open(2);
            x.lay(9, 0, 0);
            x.lay(9, 9, 1);
            x.contest(19, 0);
            for (int i = 0; i < 3; i++) x.contest(19, 9);
            String[] due = {"0 4 0 1", "0 5 19 1", "0 5 19 2", "0 5 19 3"};
            for (int i = 0; i < 4; i++) CHECKS.is("log " + i, Villages.entry(x, 3 + i), due[i]);
            CHECKS.is("entries, no turn in an open vote", x.value(14), 7);
        });
    }

    private static void logPart() {
        CHECKS.holds("Promise 28", "INVALID for a negative i or any other what", () -> {
            int[] sizes = {0, 5, 30, 33};
            for (int size : sizes) {
                StickVotes x = logged(size);
                int[] wrongs = {-1, -2, -30, -31, Integer.MIN_VALUE};
                for (int i : wrongs) CHECKS.is("log(" + i + ", 0) of " + size, x.log(i, 0), -1);
                int[] whats = {-1, 4, -2, 5, Integer.MIN_VALUE, Integer.MAX_VALUE};
                for (int what : whats) {
                    CHECKS.is("log(0, " + what + ") of " + size, x.log(0, what), -1);
                    CHECKS.is("log(99, " + what + ") of " + size, x.log(99, what), -1);
                    CHECKS.is("log(-1, " + what + ") of " + size, x.log(-1, what), -1);
                }
            }
        });
        CHECKS.holds("Promise 28", "NOT_FOUND if there are not so many.", () -> {
            int[] sizes = {0, 1, 29, 30, 31};
            for (int size : sizes) {
                StickVotes x = logged(size);
                int kept = Math.min(size, 30);
                int[] beyond = {kept, kept + 1, 30, 31, Integer.MAX_VALUE};
                for (int i : beyond) {
                    for (int what = 0; what < 4; what++) CHECKS.is("log(" + i + ", " + what + ") of " + size, x.log(i, what), -2);
                }
                if (kept > 0) CHECKS.is("log(last, 1) of " + size, x.log(kept - 1, 1), (size - 1) % 2);
            }
        });
        CHECKS.holds("Promise 28", "`i`: index, from 0 for the oldest one that is kept", () -> {
            CHECKS.is("the oldest of 30", Villages.entry(logged(30), 0), "0 0 1 50");
            CHECKS.is("the oldest of 31", Villages.entry(logged(31), 0), "0 1 1 1");
            CHECKS.is("the oldest of 32", Villages.entry(logged(32), 0), "1 0 1 51");
        });
    }

    /** So many votes are closed, each a day later; p sticks lie in the basket 1 of the vote p (of 20). */
    private static StickVotes closed(int votes) {
        StickVotes x = crowd(1, 1, 0, 1);
        for (int vote = 0; vote < votes; vote++) {
            x.open(2);
            for (int p = 0; p < vote; p++) x.lay(p, p, 1);
            x.close();
            x.pass(1);
        }
        return x;
    }

    private static void past() {
        CHECKS.holds("Promise 27", "INVALID for a negative vote or any other what", () -> {
            StickVotes x = closed(9);
            int[] votes = {-1, -2, -8, Integer.MIN_VALUE};
            for (int vote : votes) {
                for (int what = -1; what <= 4; what++) CHECKS.is("past(" + vote + ", " + what + ")", x.past(vote, what), -1);
            }
            int[] whats = {-1, 4, -2, 5, Integer.MIN_VALUE, Integer.MAX_VALUE};
            for (int what : whats) {
                CHECKS.is("past(5, " + what + ")", x.past(5, what), -1);
                CHECKS.is("past(0, " + what + "), not kept", x.past(0, what), -1);
                CHECKS.is("past(9, " + what + "), not yet", x.past(9, what), -1);
            }
        });
        CHECKS.holds("Promise 27", "NOT_FOUND if it is not kept.", () -> {
            StickVotes x = Villages.port();
            for (int what = 0; what < 4; what++) CHECKS.is("past(0, " + what + ") without a vote", x.past(0, what), -2);
            x.open(2);
            for (int what = 0; what < 4; what++) CHECKS.is("past(0, " + what + ") of an open vote", x.past(0, what), -2);
            x.pass(3);
            x.close();
            int[] due = {3, 0, 3, -2};
            for (int what = 0; what < 4; what++) CHECKS.is("past(0, " + what + ") of a closed vote", x.past(0, what), due[what]);
            for (int what = 0; what < 4; what++) CHECKS.is("past(1, " + what + ")", x.past(1, what), -2);
            CHECKS.is("past(MAX, 0)", x.past(Integer.MAX_VALUE, 0), -2);
            x.undo();
            CHECKS.is("past(0, 0) behind undo()", x.past(0, 0), -2);
        });
        CHECKS.holds("Promise 27", "3 its result (NOT_FOUND without one)", () -> {
            StickVotes x = closed(2);
            CHECKS.is("past(0, 3) without a result", x.past(0, 3), -2);
            CHECKS.is("past(1, 3)", x.past(1, 3), 1);
        });
    }

    private static void pastComesRound() {
        int[] sizes = {1, 7, 8, 9, 10, 15, 16, 17};
        for (int size : sizes) {
            CHECKS.holds("Promise 27", "`vote`: a vote; the latest 8 that were closed are kept", () -> {
                StickVotes x = closed(size);
                for (int vote = 0; vote <= size; vote++) {
                    boolean isKept = vote < size && vote >= size - 8;
                    int[] due = {vote, vote, 1, vote == 0 ? -2 : 1};
                    for (int what = 0; what < 4; what++) {
                        CHECKS.is("past(" + vote + ", " + what + ") of " + size, x.past(vote, what), isKept ? due[what] : -2);
                    }
                }
            });
        }
        CHECKS.holds("Promise 27", "the latest 8 that were closed are kept", () -> {
            StickVotes x = closed(8);
            x.open(2);
            CHECKS.is("past(0, 2), the ninth is open", x.past(0, 2), 1);
            CHECKS.is("past(8, 2), the ninth is open", x.past(8, 2), -2);
            x.close();
            CHECKS.is("past(0, 2), the ninth is closed", x.past(0, 2), -2);
            CHECKS.is("past(1, 2), the ninth is closed", x.past(1, 2), 1);
            CHECKS.is("past(8, 2), the ninth is closed", x.past(8, 2), 1);
            x.undo();
            CHECKS.is("past(0, 2) behind undo()", x.past(0, 2), 1);
            CHECKS.is("past(8, 2) behind undo()", x.past(8, 2), -2);
        });
    }

    private static void pastAsStrikesLeftIt() {
        CHECKS.holds("Promise 27", "turnout and result as later strikes left them", () -> {
            StickVotes x = crowd(2, 0, 3, 1);
            for (int vote = 0; vote < 9; vote++) {
                x.open(2);
                x.lay(0, 0, 0);
                x.lay(1, 1, 0);
                if (vote < 8) {
                    x.close();
                    x.give(2, 3, -2);
                }
            }
            // The ninth row takes the place of the first one.
            x.lay(3, 2, 1);
            x.contest(4, 2);
            x.undo();
            x.close();
            x.pass(3);
            CHECKS.is("turnout at the closing", x.past(8, 1), 3);
            x.contest(4, 2);
            int[] due = {0, 2, 2, 0};
            for (int vote = 1; vote <= 8; vote++) {
                for (int what = 0; what < 4; what++) CHECKS.is("past(" + vote + ", " + what + ")", x.past(vote, what), due[what]);
            }
            CHECKS.is("past(0, 1)", x.past(0, 1), -2);
        });
        CHECKS.holds("Promise 27", "turnout and result as later strikes left them", () -> {
            StickVotes x = crowd(2, 0, 3, 1);
            x.give(2, 3, -2);
            x.open(2);
            x.lay(3, 2, 1);
            x.lay(0, 0, 1);
            x.close();
            x.pass(2);
            x.recount();
            int[] due = {0, 1, 2, -2};
            for (int what = 0; what < 4; what++) CHECKS.is("past(0, " + what + ")", x.past(0, what), due[what]);
            x.undo();
            CHECKS.is("past(0, 1) behind undo()", x.past(0, 1), 2);
            CHECKS.is("past(0, 3) behind undo()", x.past(0, 3), 1);
        });
    }

    private static void valueInvalid() {
        CHECKS.holds("Promise 21", "INVALID for any other what.", () -> {
            StickVotes x = Villages.port();
            int[] wrongs = {-1, 17, -2, 18, 100, Integer.MIN_VALUE, Integer.MAX_VALUE};
            for (int what : wrongs) CHECKS.is("value(" + what + ")", x.value(what), -1);
            x.open(2);
            for (int what : wrongs) CHECKS.is("value(" + what + ") in a vote", x.value(what), -1);
        });
        CHECKS.holds("Promise 21", "14 of entries of the log", () -> {
            CHECKS.is("value(14) of 0", logged(0).value(14), 0);
            CHECKS.is("value(14) of 29", logged(29).value(14), 29);
            CHECKS.is("value(14) of 30", logged(30).value(14), 30);
            CHECKS.is("value(14) of 31", logged(31).value(14), 30);
        });
    }

    private static void valuesOfTheSea() {
        CHECKS.holds("Promise 21", "2 the number of people, 3 of boats, 4 of boats that are out, 5 of people at sea", () -> {
            StickVotes x = new StickVotes();
            int[] least = {2, 0, 0, 0};
            for (int i = 0; i < 4; i++) CHECKS.is("value(" + (2 + i) + ")", x.value(2 + i), least[i]);
            StickVotes y = Villages.crowd(numbers(1, 1, 3, 1), 20, 6, p -> p % 6);
            for (int out = 0; out <= 6; out++) {
                CHECKS.is("value(4)", y.value(4), out);
                CHECKS.is("value(5)", y.value(5), out < 3 ? out * 4 : 8 + (out - 2) * 3);
                CHECKS.is("value(15)", y.value(15), 20 - y.value(5));
                y.sail(out, 9);
            }
            CHECKS.is("value(2)", y.value(2), 20);
            CHECKS.is("value(3)", y.value(3), 6);
        });
    }

    private static void valuesOfTheVote() {
        CHECKS.holds("Promise 21", "8 the state of the latest vote (0 none, 1 open, 2 closed, and sticks can still be contested, 3 closed for good)", () -> {
            StickVotes x = crowd(1, 1, 2, 0);
            CHECKS.is("none", x.value(8), 0);
            x.open(2);
            CHECKS.is("open", x.value(8), 1);
            x.pass(99);
            CHECKS.is("open behind 99 days", x.value(8), 1);
            x.close();
            CHECKS.is("closed", x.value(8), 2);
            x.pass(2);
            CHECKS.is("closed, the last day", x.value(8), 2);
            x.pass(1);
            CHECKS.is("closed for good", x.value(8), 3);
            x.open(2);
            CHECKS.is("the next one open", x.value(8), 1);
        });
        CHECKS.holds("Promise 21", "7 the turnout (of the latest vote; 0 without one)", () -> {
            StickVotes x = crowd(1, 1, 2, 0);
            CHECKS.is("without a vote", x.value(7), 0);
            x.open(2);
            for (int p = 0; p < 20; p++) x.lay(p, p, 0);
            CHECKS.is("of all", x.value(7), 20);
            x.close();
            x.pass(99);
            CHECKS.is("of a closed vote", x.value(7), 20);
            x.open(2);
            CHECKS.is("of the next one", x.value(7), 0);
        });
        CHECKS.holds("Promise 21", "9 its number of baskets (0 without one)", () -> {
            StickVotes x = crowd(1, 1, 2, 0);
            CHECKS.is("without a vote", x.value(9), 0);
            for (int baskets = 2; baskets <= 4; baskets++) {
                x.open(baskets);
                CHECKS.is("of an open vote", x.value(9), baskets);
                x.close();
                CHECKS.is("of a closed vote", x.value(9), baskets);
            }
        });
        CHECKS.holds("Promise 21", "10 its result (NOT_FOUND without one, and as long as it is open)", () -> {
            StickVotes x = crowd(1, 1, 2, 0);
            CHECKS.is("without a vote", x.value(10), -2);
            x.open(4);
            x.lay(0, 0, 3);
            CHECKS.is("as long as it is open", x.value(10), -2);
            x.close();
            CHECKS.is("closed", x.value(10), 3);
            x.open(4);
            CHECKS.is("the next one open", x.value(10), -2);
            x.close();
            CHECKS.is("closed without a result", x.value(10), -2);
        });
        CHECKS.holds("Promise 21", "13 the number of votes so far", () -> {
            StickVotes x = closed(3);
            CHECKS.is("three closed", x.value(13), 3);
            x.open(2);
            CHECKS.is("one more open", x.value(13), 4);
            CHECKS.is("without one", new StickVotes().value(13), 0);
        });
    }

    private static void valuesOfSticks() {
        CHECKS.holds("Promise 21", "11 the sticks of it that are struck, 12 the recounts of it that were made", () -> {
            StickVotes x = crowd(1, 0, 3, 3);
            CHECKS.is("value(11) without a vote", x.value(11), 0);
            CHECKS.is("value(12) without a vote", x.value(12), 0);
            for (int p = 1; p < 20; p++) x.give(p, 0, -2);
            x.give(0, 1, -2);
            x.open(2);
            for (int p = 1; p < 20; p++) x.lay(0, p, 0);
            x.lay(1, 0, 0);
            x.contest(3, 3);
            CHECKS.is("value(11) of one", x.value(11), 1);
            x.close();
            for (int i = 1; i <= 3; i++) {
                x.recount();
                CHECKS.is("value(12)", x.value(12), i);
            }
            CHECKS.is("value(11) of all", x.value(11), 20);
            x.open(2);
            CHECKS.is("value(11) of the next vote", x.value(11), 0);
            CHECKS.is("value(12) of the next vote", x.value(12), 0);
        });
        CHECKS.holds("Promise 21", "15 of people ashore, 16 of sticks that are laid, wrong and not struck", () -> {
            StickVotes x = Villages.crowd(numbers(1, 0, 3, 3), 20, 1, p -> 0);
            CHECKS.is("value(15) of all", x.value(15), 20);
            CHECKS.is("value(16) of none", x.value(16), 0);
            for (int p = 1; p < 20; p++) x.give(p, 0, -2);
            x.give(0, 1, -2);
            x.open(2);
            for (int p = 1; p < 20; p++) x.lay(0, p, 0);
            x.lay(1, 0, 0);
            CHECKS.is("value(16) of all", x.value(16), 20);
            x.contest(0, 0);
            CHECKS.is("value(16) without a struck one", x.value(16), 19);
            x.sail(0, 1);
            CHECKS.is("value(15) of none", x.value(15), 0);
        });
    }

    private static void agrees() {
        CHECKS.holds("Promise 43", "true without a vote.", () -> {
            CHECKS.is("agrees() of a new object", new StickVotes().agrees(), true);
            StickVotes x = Villages.port();
            x.open(2);
            x.lay(0, 0, 0);
            x.undo();
            x.undo();
            CHECKS.is("agrees() behind undo() of the opening", x.agrees(), true);
        });
        CHECKS.holds("Promise 43", "are together as many as the calls of lay() since it opened that were done and not undone", () -> {
            StickVotes x = crowd(1, 0, 3, 2);
            x.give(1, 0, -2);
            x.open(2);
            CHECKS.is("of none", x.agrees(), true);
            for (int p = 0; p < 20; p++) {
                x.lay(p == 1 ? 0 : p, p, 0);
                CHECKS.is("behind lay() " + p, x.agrees(), true);
            }
            x.lay(0, 0, 0);
            CHECKS.is("behind a refused lay()", x.agrees(), true);
            for (int i = 0; i < 8; i++) {
                x.undo();
                CHECKS.is("behind undo() " + i, x.agrees(), true);
            }
            x.contest(3, 1);
            CHECKS.is("behind a strike", x.agrees(), true);
            x.close();
            x.recount();
            CHECKS.is("behind a recount", x.agrees(), true);
            x.open(2);
            CHECKS.is("in the next vote", x.agrees(), true);
        });
    }

    private static void share() {
        CHECKS.holds("Promise 44", "0 if that is 0; -1 for an invalid argument.", () -> {
            StickVotes x = crowd(1, 1, 3, 1);
            int[] wrongs = {-1, 4, -2, Integer.MIN_VALUE, Integer.MAX_VALUE};
            for (int turn = 0; turn < 3; turn++) {
                for (int b = 0; b < 4; b++) {
                    CHECKS.isReal("share(" + b + ")", x.share(b), turn == 2 && b == 1 ? 1 : 0);
                }
                for (int b : wrongs) CHECKS.isReal("share(" + b + ")", x.share(b), -1);
                if (turn == 0) x.open(2);
                if (turn == 1) x.lay(0, 0, 1);
            }
        });
        CHECKS.holds("Promise 44", "Returns its count, as a float, divided by the turnout, as a float", () -> {
            StickVotes x = crowd(1, 1, 3, 1);
            x.open(4);
            for (int p = 0; p < 3; p++) x.lay(p, p, p == 0 ? 0 : 3);
            CHECKS.isReal("share(0)", x.share(0), 1f / 3f);
            CHECKS.isReal("share(3)", x.share(3), 2f / 3f);
            for (int p = 3; p < 20; p++) x.lay(p, p, 3);
            CHECKS.isReal("share(0) of all", x.share(0), 1f / 20f);
            CHECKS.isReal("share(3) of all", x.share(3), 19f / 20f);
            StickVotes y = crowd(1, 0, 3, 1);
            y.give(0, 1, -2);
            y.open(2);
            y.lay(1, 0, 1);
            y.contest(2, 0);
            CHECKS.isReal("share(1) of a struck one alone", y.share(1), 0);
            y.lay(3, 3, 0);
            y.lay(4, 4, 1);
            CHECKS.isReal("share(0) without the struck one", y.share(0), 0.5);
            CHECKS.isReal("share(1) without the struck one", y.share(1), 0.5);
        });
    }
}
