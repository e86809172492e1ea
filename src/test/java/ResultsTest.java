/** Promises 14 to 16, 21, 27, 28, 43 and 44: contests, closings, recounts, values, past and log. */
public final class ResultsTest {
    private static final Checks CHECKS = new Checks("ResultsTest");
    private static final String SIX = "person a of r;person b of r;person c;person d;person e;person f;";

    private ResultsTest() {
    }

    public static void main(String[] args) {
        contestRefusals();
        contestStrikesOrFaults();
        threeFaults();
        appealTime();
        onlyTheLatestVote();
        close();
        needIsFixed();
        needRoundsUp();
        tiesGoToTheEldest();
        strikesChangeTheResult();
        recount();
        recountTellsOneTurn();
        value();
        past();
        log();
        agrees();
        share();
        CHECKS.end();
    }

    /** Six people, a and b of the boat r; a NEED of 1 on all days. */
    private static StickVotes six(int carry, int appeal, int recounts) {
        return Villages.of(Villages.numbers(10, "0 0 0 0", 0, 1, carry, appeal, recounts) + "boat r;" + SIX);
    }

    private static void contestRefusals() {
        StickVotes x = Villages.port();
        CHECKS.is("contest(0, 0) without a vote", x.contest(0, 0), -4);
        x.open(2);
        CHECKS.is("contest(5, 0)", x.contest(5, 0), -1);
        CHECKS.is("contest(0, 5)", x.contest(0, 5), -1);
        CHECKS.is("contest(-1, 0)", x.contest(-1, 0), -1);
        CHECKS.is("contest(0, -1)", x.contest(0, -1), -1);
        CHECKS.is("contest(0, 0), not laid", x.contest(0, 0), -4);
        x.lay(0, 0, 0);
        x.sail(0, 2);
        CHECKS.is("contest(1, 0) at sea", x.contest(1, 0), -3);
        CHECKS.is("contest(1, 2) at sea, not laid", x.contest(1, 2), -3);
        x.give(3, 4, -2);
        CHECKS.is("contest(2, 3), carried", x.contest(2, 3), -4);
        x.lay(4, 3, 0);
        CHECKS.is("contest(2, 3)", x.contest(2, 3), 1);
        CHECKS.is("contest(2, 3), struck", x.contest(2, 3), -4);
        x.close();
        x.pass(4);
        CHECKS.is("contest(2, 3), struck and late", x.contest(2, 3), -4);
        CHECKS.is("contest(2, 0), late", x.contest(2, 0), -5);
        CHECKS.is("no faults", x.person(2, 3), 0);
    }

    private static void contestStrikesOrFaults() {
        StickVotes x = six(1, 3, 1);
        x.give(0, 2, -2);
        x.give(1, 2, 1);
        x.give(3, 2, -2);
        x.give(4, 5, 3);
        x.open(2);
        x.sail(0, 5);
        x.lay(2, 0, 0);
        x.lay(2, 1, 0);
        x.lay(2, 3, 0);
        x.lay(2, 2, 0);
        CHECKS.is("a right one", x.contest(3, 0), 0);
        CHECKS.is("the fault", x.person(3, 3), 1);
        CHECKS.is("log of the fault", Villages.entry(x, 6), "0 5 3 1");
        CHECKS.is("a right one stays", x.stick(0, 0), 2);
        CHECKS.is("one too many", x.contest(3, 1), 2);
        CHECKS.is("log of the strike", Villages.entry(x, 7), "0 4 1 2");
        CHECKS.is("it is struck", x.stick(1, 0), 3);
        CHECKS.is("the own one", x.contest(3, 3), 1);
        CHECKS.is("no more faults", x.person(3, 3), 1);
        CHECKS.is("the own one, laid by oneself", x.contest(2, 2), 0);
        CHECKS.is("a fault of its own", x.person(2, 3), 1);
        CHECKS.is("turnout", x.value(7), 2);
        CHECKS.is("entries: no turn in an open vote", x.value(14), 10);
        StickVotes z = six(1, 3, 1);
        z.give(0, 2, -2);
        z.open(2);
        z.lay(2, 0, 0);
        z.lay(3, 3, 1);
        z.contest(4, 0);
        CHECKS.is("another one leads", z.leads(), 1);
        CHECKS.is("no turn in an open vote", z.value(14), 4);
        CHECKS.is("no past of an open vote", z.past(0, 1), -2);
        StickVotes y = six(9, 3, 1);
        y.give(0, 2, 3);
        y.sail(0, 5);
        y.open(2);
        y.lay(2, 0, 1);
        CHECKS.is("another basket", y.contest(4, 0), 3);
        CHECKS.is("log of it", Villages.entry(y, 3), "0 4 0 3");
    }

    private static void threeFaults() {
        StickVotes x = six(1, 3, 1);
        x.give(4, 5, -2);
        x.open(2);
        x.lay(0, 0, 0);
        x.lay(1, 1, 0);
        for (int i = 1; i <= 3; i++) {
            CHECKS.is("contest(2, 0) the " + i + ". time", x.contest(2, 0), 0);
            CHECKS.is("faults", x.person(2, 3), i);
        }
        x.lay(5, 4, 1);
        CHECKS.is("contest(2, 4) with 3 faults", x.contest(2, 4), -4);
        CHECKS.is("faults stay at 3", x.person(2, 3), 3);
        x.close();
        x.open(2);
        x.lay(5, 4, 0);
        CHECKS.is("contest(2, 4) in the next vote", x.contest(2, 4), -4);
        CHECKS.is("contest(3, 4)", x.contest(3, 4), 1);
        x.close();
        x.pass(9);
        CHECKS.is("with 3 faults, and late", x.contest(2, 4), -4);
    }

    private static void appealTime() {
        int[] appeals = {0, 3, 30};
        for (int appeal : appeals) {
            StickVotes x = six(1, appeal, 3);
            x.open(2);
            x.lay(0, 0, 0);
            x.pass(5);
            x.close();
            CHECKS.is("state on the day of the closing", x.value(8), 2);
            if (appeal > 0) x.pass(appeal);
            CHECKS.is("state on the last day", x.value(8), 2);
            CHECKS.is("contest(2, 0) on the last day", x.contest(2, 0), 0);
            CHECKS.is("recount() on the last day", x.recount(), 0);
            x.pass(1);
            CHECKS.is("state behind it", x.value(8), 3);
            CHECKS.is("contest(2, 0) behind it", x.contest(2, 0), -5);
            CHECKS.is("recount() behind it", x.recount(), -5);
        }
        StickVotes y = six(1, 0, 0);
        y.open(2);
        y.lay(0, 0, 0);
        y.pass(50);
        CHECKS.is("state of an open vote", y.value(8), 1);
        CHECKS.is("contest(2, 0) of an open vote", y.contest(2, 0), 0);
    }

    private static void onlyTheLatestVote() {
        StickVotes x = six(1, 9, 3);
        x.give(4, 5, -2);
        x.open(2);
        x.lay(5, 4, 0);
        x.lay(0, 0, 1);
        x.close();
        CHECKS.is("result 0", x.past(0, 3), 1);
        x.open(2);
        CHECKS.is("contest(2, 4), out of the baskets", x.contest(2, 4), -4);
        CHECKS.is("recount() of an open vote", x.recount(), -5);
        x.close();
        CHECKS.is("recount() of the next vote", x.recount(), 0);
        CHECKS.is("turnout 0", x.past(0, 1), 2);
        CHECKS.is("turnout 1", x.past(1, 1), 0);
        CHECKS.is("result 1", x.past(1, 3), -2);
    }

    private static void close() {
        StickVotes x = Villages.port();
        CHECKS.is("close() without a vote", x.close(), -5);
        x.open(3);
        CHECKS.is("result of an open vote", x.value(10), -2);
        x.lay(0, 0, 2);
        x.lay(1, 1, 2);
        x.lay(2, 2, 0);
        x.pass(2);
        CHECKS.is("close()", x.close(), 3);
        CHECKS.is("result", x.value(10), 2);
        CHECKS.is("log of close", Villages.entry(x, 4), "2 6 0 2");
        CHECKS.is("close() again", x.close(), -5);
        x.open(2);
        x.lay(4, 4, 1);
        CHECKS.is("close() with too few", x.close(), 1);
        CHECKS.is("no result", x.value(10), -2);
        CHECKS.is("log of no result", Villages.entry(x, 7), "2 6 1 -1");
        x.open(2);
        CHECKS.is("close() with none", x.close(), 0);
        CHECKS.is("undo() of close", x.undo() >= 0, true);
        CHECKS.is("open again", x.value(8), 1);
    }

    private static void needIsFixed() {
        StickVotes x = Villages.port();
        x.sail(1, 30);
        x.open(2);
        x.lay(0, 0, 0);
        x.lay(1, 1, 1);
        CHECKS.is("NEED with a boat out", x.value(6), 2);
        x.close();
        CHECKS.is("result", x.value(10), 0);
        x.comeHome(1);
        CHECKS.is("NEED stays fixed", x.value(6), 2);
        CHECKS.is("result stays", x.value(10), 0);
        CHECKS.is("NEED of the day", x.needIn(0), 3);
        x.pass(30);
        CHECKS.is("NEED stays fixed in another season", x.value(6), 2);
        x.open(2);
        CHECKS.is("NEED of an open vote", x.value(6), 5);
        x.sail(0, 1);
        CHECKS.is("NEED of an open vote goes with the boats", x.value(6), 4);
        x.close();
        CHECKS.is("NEED kept", x.past(0, 2), 2);
        CHECKS.is("NEED kept", x.past(1, 2), 4);
    }

    private static void needRoundsUp() {
        int[][] rows = {{0, 1}, {1, 1}, {33, 2}, {34, 3}, {50, 3}, {51, 4}, {67, 5}, {100, 6}};
        for (int[] row : rows) {
            StickVotes x = Villages.of(Villages.numbers(1, row[0] + " 0 0 0", 0, 1, 1, 1, 1)
                + "boat r;" + SIX);
            CHECKS.is("NEED with a SHARE of " + row[0], x.value(6), row[1]);
        }
        StickVotes x = Villages.of(Villages.numbers(1, "100 100 100 0", 4, 2, 1, 1, 1)
            + "boat r;boat s;" + SIX);
        CHECKS.is("NEED", x.value(6), 6);
        x.sail(0, 9);
        CHECKS.is("NEED less 4", x.value(6), 2);
        x.sail(1, 9);
        CHECKS.is("NEED is LEAST at least", x.value(6), 2);
        StickVotes y = Villages.of(Villages.numbers(1, "0 0 0 0", 0, 20, 1, 1, 1) + SIX.replace(" of r", ""));
        CHECKS.is("LEAST above the number of people", y.value(6), 20);
        y.open(2);
        for (int p = 0; p < 6; p++) y.lay(p, p, 0);
        CHECKS.is("close() with all", y.close(), 6);
        CHECKS.is("no result", y.value(10), -2);
    }

    private static void tiesGoToTheEldest() {
        StickVotes x = six(9, 9, 3);
        x.open(4);
        x.lay(5, 5, 0);
        x.lay(2, 2, 3);
        CHECKS.is("two with 1", x.leads(), 3);
        x.lay(1, 1, 1);
        CHECKS.is("three with 1", x.leads(), 1);
        x.lay(4, 4, 0);
        CHECKS.is("the greatest", x.leads(), 0);
        x.lay(3, 3, 3);
        CHECKS.is("the eldest of all lies in a lesser one", x.leads(), 3);
        x.lay(0, 0, 1);
        CHECKS.is("all with 2", x.leads(), 1);
        x.close();
        CHECKS.is("result", x.value(10), 1);
    }

    private static void strikesChangeTheResult() {
        StickVotes x = Villages.of(Villages.numbers(9, "0 0 0 0", 0, 2, 0, 5, 1) + "boat r;" + SIX);
        x.give(0, 5, -2);
        x.give(2, 5, -2);
        x.open(3);
        x.lay(5, 0, 2);
        x.lay(5, 2, 1);
        x.lay(3, 3, 0);
        x.close();
        CHECKS.is("result", x.value(10), 2);
        x.pass(1);
        int entries = x.value(14);
        x.contest(4, 0);
        CHECKS.is("result then", x.value(10), 1);
        CHECKS.is("past result then", x.past(0, 3), 1);
        CHECKS.is("past turnout then", x.past(0, 1), 2);
        CHECKS.is("day of the closing", x.past(0, 0), 0);
        CHECKS.is("strike and turn", x.value(14), entries + 2);
        CHECKS.is("log of the strike", Villages.entry(x, entries), "1 4 0 1");
        CHECKS.is("log of the turn", Villages.entry(x, entries + 1), "1 7 0 1");
        x.contest(4, 2);
        CHECKS.is("no result then", x.value(10), -2);
        CHECKS.is("past without a result", x.past(0, 3), -2);
        CHECKS.is("log of the turn to none", Villages.entry(x, entries + 3), "1 7 0 -1");
        x.undo();
        CHECKS.is("past behind undo", x.past(0, 3), 1);
        x.undo();
        CHECKS.is("past behind undo", x.past(0, 3), 2);
        x.contest(4, 2);
        CHECKS.is("the result stays", x.value(10), 2);
        CHECKS.is("no turn", x.value(14), entries + 1);
        CHECKS.is("turnout", x.past(0, 1), 2);
    }

    private static void recount() {
        StickVotes x = six(0, 2, 2);
        CHECKS.is("recount() without a vote", x.recount(), -5);
        x.give(4, 2, -2);
        x.give(3, 2, -2);
        x.open(2);
        x.lay(2, 4, 0);
        x.lay(2, 3, 0);
        x.lay(2, 2, 1);
        CHECKS.is("recount() of an open vote", x.recount(), -5);
        x.contest(0, 4);
        x.close();
        CHECKS.is("recount()", x.recount(), 1);
        CHECKS.is("recounts", x.value(12), 1);
        CHECKS.is("struck ones", x.value(11), 2);
        CHECKS.is("recount() without strikes", x.recount(), 0);
        CHECKS.is("recounts", x.value(12), 2);
        CHECKS.is("recount() beyond RECOUNTS", x.recount(), -5);
        CHECKS.is("undo() of recount", x.undo() >= 0, true);
        CHECKS.is("recounts behind undo", x.value(12), 1);
        x.open(2);
        CHECKS.is("recounts of the next vote", x.value(12), 0);
        x.close();
        CHECKS.is("recount() of the next vote", x.recount(), 0);
        StickVotes y = six(0, 2, 0);
        y.open(2);
        y.close();
        CHECKS.is("recount() with 0 RECOUNTS", y.recount(), -5);
        CHECKS.is("state with 0 RECOUNTS", y.value(8), 2);
    }

    private static void recountTellsOneTurn() {
        StickVotes x = six(1, 9, 3);
        x.give(5, 2, -2);
        x.give(4, 2, -2);
        x.give(0, 3, 1);
        x.open(4);
        x.lay(2, 5, 3);
        x.lay(2, 4, 3);
        x.lay(1, 1, 2);
        x.sail(0, 20);
        x.lay(3, 0, 0);
        x.pass(1);
        x.close();
        CHECKS.is("result", x.value(10), 3);
        CHECKS.is("truly()", x.truly(), 2);
        int entries = x.value(14);
        CHECKS.is("recount()", x.recount(), 3);
        CHECKS.is("entries", x.value(14), entries + 4);
        String[] due = {"1 4 0 3", "1 4 4 1", "1 4 5 1", "1 7 0 2"};
        for (int i = 0; i < due.length; i++) {
            CHECKS.is("log " + i, Villages.entry(x, entries + i), due[i]);
        }
        CHECKS.is("result then", x.value(10), 2);
        CHECKS.is("past result", x.past(0, 3), 2);
        CHECKS.is("past turnout", x.past(0, 1), 1);
        CHECKS.is("value(16)", x.value(16), 0);
    }

    private static void value() {
        StickVotes x = Villages.port();
        x.give(0, 3, 1);
        x.give(4, 3, -2);
        x.sail(0, 30);
        x.pass(12);
        x.open(3);
        x.lay(3, 0, 0);
        x.lay(3, 4, 2);
        x.lay(3, 3, 2);
        x.lay(2, 2, 2);
        x.contest(2, 4);
        int[] open = {12, 1, 5, 2, 1, 2, 2, 3, 1, 3, -2, 1, 0, 1, 7, 3, 1};
        for (int what = 0; what < open.length; what++) {
            CHECKS.is("open value(" + what + ")", x.value(what), open[what]);
        }
        x.close();
        x.recount();
        x.pass(10);
        int[] closed = {22, 2, 5, 2, 1, 2, 2, 2, 3, 3, 2, 2, 1, 1, 9, 3, 0};
        for (int what = 0; what < closed.length; what++) {
            CHECKS.is("closed value(" + what + ")", x.value(what), closed[what]);
        }
        CHECKS.is("value(-1)", x.value(-1), -1);
        CHECKS.is("value(17)", x.value(17), -1);
        CHECKS.is("value(MAX)", x.value(Integer.MAX_VALUE), -1);
        CHECKS.is("value(MIN)", x.value(Integer.MIN_VALUE), -1);
    }

    private static void past() {
        StickVotes x = six(0, 0, 0);
        for (int vote = 0; vote < 10; vote++) {
            CHECKS.is("past of an open vote", x.past(vote, 0), -2);
            x.open(2 + vote % 3);
            CHECKS.is("past of an open vote", x.past(vote, 0), -2);
            for (int p = 0; p < vote % 6; p++) x.lay(p, p, vote % 2);
            x.pass(1);
            x.close();
        }
        for (int vote = 0; vote < 12; vote++) {
            boolean isKept = vote >= 2 && vote < 10;
            CHECKS.is("day of " + vote, x.past(vote, 0), isKept ? vote + 1 : -2);
            CHECKS.is("turnout of " + vote, x.past(vote, 1), isKept ? vote % 6 : -2);
            CHECKS.is("NEED of " + vote, x.past(vote, 2), isKept ? 1 : -2);
            CHECKS.is("result of " + vote, x.past(vote, 3),
                isKept && vote != 6 ? vote % 2 : -2);
        }
        CHECKS.is("past(-1, 0)", x.past(-1, 0), -1);
        CHECKS.is("past(MIN, 0)", x.past(Integer.MIN_VALUE, 0), -1);
        CHECKS.is("past(MAX, 0)", x.past(Integer.MAX_VALUE, 0), -2);
        CHECKS.is("past(3, -1)", x.past(3, -1), -1);
        CHECKS.is("past(3, 4)", x.past(3, 4), -1);
        CHECKS.is("past(0, 4)", x.past(0, 4), -1);
        x.open(2);
        CHECKS.is("as long as one is open, 2 is kept", x.past(2, 1), 2);
        x.close();
        CHECKS.is("then it is not", x.past(2, 1), -2);
        x.undo();
        CHECKS.is("behind undo it is", x.past(2, 1), 2);
        CHECKS.is("behind undo 10 is not", x.past(10, 1), -2);
    }

    private static void log() {
        StickVotes x = Villages.port();
        CHECKS.is("log(0, 0) of none", x.log(0, 0), -2);
        CHECKS.is("log(0, 4) of none", x.log(0, 4), -1);
        for (int i = 0; i < 29; i++) {
            x.open(2 + i % 2);
            x.close();
            x.pass(1);
            CHECKS.is("entries", x.value(14), Math.min(2 * i + 2, 30));
        }
        // 58 entries: 28 are gone, so that the oldest one opens the vote 14 on the DAY 14.
        CHECKS.is("oldest", Villages.entry(x, 0), "14 2 14 2");
        CHECKS.is("second", Villages.entry(x, 1), "14 6 14 -1");
        CHECKS.is("third", Villages.entry(x, 2), "15 2 15 3");
        CHECKS.is("latest", Villages.entry(x, 29), "28 6 28 -1");
        CHECKS.is("log(30, 0)", x.log(30, 0), -2);
        CHECKS.is("log(MAX, 3)", x.log(Integer.MAX_VALUE, 3), -2);
        CHECKS.is("log(-1, 0)", x.log(-1, 0), -1);
        CHECKS.is("log(MIN, 0)", x.log(Integer.MIN_VALUE, 0), -1);
        CHECKS.is("log(0, -1)", x.log(0, -1), -1);
        CHECKS.is("log(0, 4)", x.log(0, 4), -1);
        x.undo();
        x.undo();
        CHECKS.is("oldest behind undo", Villages.entry(x, 0), "13 6 13 -1");
        CHECKS.is("latest behind undo", Villages.entry(x, 29), "28 2 28 2");
        StickVotes y = Villages.port();
        y.sail(0, 2);
        y.pass(2);
        CHECKS.is("two entries", y.value(14), 2);
        CHECKS.is("log(1, 1)", y.log(1, 1), 1);
        CHECKS.is("log(2, 1)", y.log(2, 1), -2);
    }

    private static void agrees() {
        StickVotes x = six(0, 5, 2);
        CHECKS.is("agrees() without a vote", x.agrees(), true);
        x.give(4, 2, -2);
        x.open(2);
        CHECKS.is("agrees() of an empty vote", x.agrees(), true);
        x.lay(2, 4, 0);
        x.lay(2, 2, 1);
        x.lay(2, 2, 1);
        x.lay(0, 0, 3);
        CHECKS.is("agrees() behind lay", x.agrees(), true);
        x.contest(0, 4);
        CHECKS.is("agrees() behind a strike", x.agrees(), true);
        x.undo();
        x.undo();
        CHECKS.is("agrees() behind undo", x.agrees(), true);
        x.lay(3, 3, 0);
        x.close();
        CHECKS.is("agrees() behind close", x.agrees(), true);
        x.recount();
        CHECKS.is("agrees() behind recount", x.agrees(), true);
        x.open(2);
        CHECKS.is("agrees() in the next vote", x.agrees(), true);
        x.undo();
        CHECKS.is("agrees() in the vote ahead again", x.agrees(), true);
        x.keep(0);
        x.open(3);
        x.lay(0, 0, 2);
        x.restore(0);
        CHECKS.is("agrees() behind restore", x.agrees(), true);
    }

    private static void share() {
        StickVotes x = six(0, 5, 2);
        CHECKS.isReal("share(0) without a vote", x.share(0), 0);
        CHECKS.isReal("share(-1) without a vote", x.share(-1), -1);
        x.open(2);
        CHECKS.isReal("share(0) of none", x.share(0), 0);
        x.lay(0, 0, 0);
        x.lay(1, 1, 1);
        x.give(2, 3, -2);
        x.lay(3, 2, 1);
        CHECKS.isReal("share(0)", x.share(0), 1f / 3f);
        CHECKS.isReal("share(1)", x.share(1), 2f / 3f);
        CHECKS.isReal("share(3)", x.share(3), 0);
        CHECKS.isReal("share(4)", x.share(4), -1);
        CHECKS.isReal("share(-1)", x.share(-1), -1);
        x.close();
        x.recount();
        CHECKS.isReal("share(1) without struck ones", x.share(1), 0.5);
    }
}
