/** Promises 34 to 42: what would be. */
public final class WouldBeTest {
    private static final Checks CHECKS = new Checks("WouldBeTest");
    private static final String SIX = "boat r;boat s;person a of r;person b of r;person c of s;"
        + "person d;person e;person f;";

    private WouldBeTest() {
    }

    public static void main(String[] args) {
        needIfHome();
        leads();
        truly();
        canWin();
        canWinLaysWhatCanBeLaid();
        decisive();
        decisiveOfAClosedVote();
        lacks();
        needIn();
        bestDay();
        bestDayOfTheRichestVillage();
        mightiest();
        askingChangesNothing();
        CHECKS.end();
    }

    /** A NEED of LEAST on all days. */
    private static StickVotes six(int least, int carry) {
        return Villages.of(Villages.numbers(10, "0 0 0 0", 0, least, carry, 5, 1) + SIX);
    }

    private static void needIfHome() {
        StickVotes x = Villages.of(Villages.numbers(10, "100 50 0 0", 2, 1, 1, 3, 1) + SIX);
        CHECKS.is("needIfHome(0) at home", x.needIfHome(0), -4);
        CHECKS.is("needIfHome(2)", x.needIfHome(2), -1);
        CHECKS.is("needIfHome(-1)", x.needIfHome(-1), -1);
        x.sail(0, 50);
        CHECKS.is("needIfHome(0)", x.needIfHome(0), 6);
        CHECKS.is("needIfHome(1) at home", x.needIfHome(1), -4);
        x.sail(1, 50);
        CHECKS.is("needIfHome(0), another is out", x.needIfHome(0), 4);
        x.open(2);
        x.close();
        x.pass(10);
        CHECKS.is("NEED is fixed", x.value(6), 2);
        CHECKS.is("needIfHome(0) as if it was not", x.needIfHome(0), 1);
        x.comeHome(1);
        CHECKS.is("needIfHome(0) in the season 1", x.needIfHome(0), 3);
    }

    private static void leads() {
        StickVotes x = six(2, 1);
        CHECKS.is("leads() without a vote", x.leads(), -5);
        x.open(3);
        CHECKS.is("leads() of none", x.leads(), -2);
        x.lay(5, 5, 2);
        CHECKS.is("leads() of too few", x.leads(), -2);
        x.lay(4, 4, 1);
        CHECKS.is("leads()", x.leads(), 1);
        x.lay(3, 3, 2);
        CHECKS.is("leads()", x.leads(), 2);
        x.close();
        CHECKS.is("leads() behind close", x.leads(), -5);
    }

    private static void truly() {
        StickVotes x = six(2, 1);
        CHECKS.is("truly() without a vote", x.truly(), -5);
        x.give(0, 3, -2);
        x.give(2, 3, -2);
        x.open(3);
        CHECKS.is("truly() of none", x.truly(), -2);
        x.lay(3, 0, 1);
        x.lay(3, 2, 1);
        x.lay(3, 3, 1);
        x.lay(5, 5, 2);
        CHECKS.is("truly() of right ones", x.truly(), 1);
        x.lay(4, 4, 2);
        CHECKS.is("leads()", x.leads(), 1);
        CHECKS.is("truly()", x.truly(), 2);
        x.close();
        CHECKS.is("truly() of a closed vote", x.truly(), 2);
        x.pass(50);
        CHECKS.is("truly() when it is too late", x.truly(), 2);
        StickVotes y = six(2, 1);
        y.give(0, 3, -2);
        y.open(2);
        y.lay(3, 0, 1);
        y.lay(3, 3, 1);
        CHECKS.is("leads()", y.leads(), 1);
        CHECKS.is("truly() with too few right ones", y.truly(), -2);
        y.close();
        CHECKS.is("result", y.value(10), 1);
        CHECKS.is("truly()", y.truly(), -2);
        y.recount();
        CHECKS.is("result behind the recount", y.value(10), -2);
        StickVotes z = Villages.of(Villages.numbers(5, "0 100 0 0", 0, 1, 1, 30, 1) + SIX);
        z.open(2);
        z.lay(0, 0, 1);
        z.close();
        z.pass(5);
        CHECKS.is("truly() with the fixed NEED", z.truly(), 1);
        z.open(2);
        z.lay(0, 0, 1);
        CHECKS.is("truly() with NEED as it is", z.truly(), -2);
    }

    private static void canWin() {
        StickVotes x = six(4, 1);
        CHECKS.is("canWin(0) without a vote", x.canWin(0), false);
        x.open(3);
        int[] wrong = {-1, -2, 3, 4, Integer.MAX_VALUE, Integer.MIN_VALUE};
        for (int basket : wrong) CHECKS.is("canWin(" + basket + ")", x.canWin(basket), false);
        for (int basket = 0; basket < 3; basket++) {
            CHECKS.is("canWin(" + basket + ") of all", x.canWin(basket), true);
        }
        x.lay(0, 0, 1);
        x.lay(1, 1, 1);
        x.lay(2, 2, 1);
        CHECKS.is("canWin(1)", x.canWin(1), true);
        CHECKS.is("canWin(0) with a tie, the eldest in another", x.canWin(0), false);
        x.undo();
        x.undo();
        x.undo();
        x.lay(5, 5, 1);
        x.lay(4, 4, 1);
        x.lay(3, 3, 1);
        CHECKS.is("canWin(0) with a tie, the eldest in it", x.canWin(0), true);
        CHECKS.is("canWin(2) with a tie, the eldest in it", x.canWin(2), true);
        x.lay(2, 2, 1);
        CHECKS.is("canWin(0) with too few left", x.canWin(0), false);
        x.close();
        CHECKS.is("canWin(1) behind close", x.canWin(1), false);
    }

    private static void canWinLaysWhatCanBeLaid() {
        StickVotes x = six(4, 0);
        x.give(0, 3, 1);
        x.give(4, 2, -2);
        x.open(2);
        x.sail(0, 9);
        CHECKS.is("of a, c, d, e and f", x.canWin(0), true);
        x.sail(1, 9);
        CHECKS.is("of a (wrong, bound), d and f", x.canWin(0), false);
        x.comeHome(0);
        CHECKS.is("of a, b, d and f", x.canWin(0), true);
        x.lay(3, 0, 0);
        x.contest(5, 0);
        CHECKS.is("without a, struck", x.canWin(0), false);
        x.comeHome(1);
        CHECKS.is("of b, c, d, e and f", x.canWin(1), true);
        StickVotes y = Villages.of(Villages.numbers(9, "100 0 0 0", 9, 5, 1, 1, 1) + SIX);
        y.open(2);
        y.sail(1, 9);
        CHECKS.is("NEED with a boat out", y.canWin(1), true);
    }

    private static void decisive() {
        StickVotes x = six(3, 1);
        CHECKS.is("decisive() without a vote", x.decisive(), -5);
        x.open(3);
        CHECKS.is("decisive() of none", x.decisive(), 0);
        x.lay(0, 0, 0);
        x.lay(1, 1, 1);
        CHECKS.is("decisive() without a result", x.decisive(), 0);
        x.lay(2, 2, 1);
        CHECKS.is("decisive() with just NEED", x.decisive(), 3);
        x.lay(3, 3, 2);
        // Without b: c, a and d with 1 each: a's 0; without c: 0; without a or d: 1 stays.
        CHECKS.is("decisive() of a tie behind it", x.decisive(), 2);
        x.lay(4, 4, 1);
        CHECKS.is("decisive() of a clear one", x.decisive(), 0);
        x.lay(5, 5, 0);
        // 0 has a and f, 1 has b, c and e; without one of 1's it is a tie that a's basket wins.
        CHECKS.is("decisive() of three", x.decisive(), 3);
        x.give(0, 1, -2);
        x.contest(5, 0);
        CHECKS.is("a right one stays", x.decisive(), 3);
    }

    private static void decisiveOfAClosedVote() {
        StickVotes x = Villages.of(Villages.numbers(5, "0 100 0 0", 0, 2, 0, 9, 1) + SIX);
        x.give(0, 3, -2);
        x.open(2);
        x.lay(3, 0, 1);
        x.lay(4, 4, 1);
        x.lay(5, 5, 1);
        x.close();
        CHECKS.is("decisive() of a closed vote", x.decisive(), 0);
        x.pass(5);
        x.contest(2, 0);
        CHECKS.is("decisive() with the fixed NEED, not the struck one", x.decisive(), 2);
        x.open(2);
        x.lay(4, 4, 1);
        CHECKS.is("decisive() without a result", x.decisive(), 0);
    }

    private static void lacks() {
        StickVotes x = Villages.port();
        CHECKS.is("lacks() without a vote", x.lacks(), -5);
        x.give(0, 4, -2);
        x.open(2);
        CHECKS.is("lacks() of none", x.lacks(), 3);
        x.lay(4, 4, 0);
        x.lay(4, 0, 1);
        CHECKS.is("lacks() of two", x.lacks(), 1);
        x.contest(3, 0);
        CHECKS.is("lacks() of one, one is struck", x.lacks(), 2);
        x.sail(1, 9);
        CHECKS.is("lacks() with a boat out", x.lacks(), 1);
        x.lay(1, 1, 0);
        x.lay(3, 3, 0);
        CHECKS.is("lacks() is 0 at least", x.lacks(), 0);
        x.close();
        CHECKS.is("lacks() behind close", x.lacks(), -5);
    }

    private static void needIn() {
        StickVotes x = Villages.of(Villages.numbers(10, "100 50 17 0", 1, 1, 1, 3, 1) + SIX);
        CHECKS.is("needIn(-1)", x.needIn(-1), -1);
        CHECKS.is("needIn(1000)", x.needIn(1000), -1);
        CHECKS.is("needIn(0)", x.needIn(0), 6);
        CHECKS.is("needIn(9)", x.needIn(9), 6);
        CHECKS.is("needIn(10)", x.needIn(10), 3);
        CHECKS.is("needIn(20)", x.needIn(20), 2);
        CHECKS.is("needIn(30)", x.needIn(30), 1);
        CHECKS.is("needIn(40)", x.needIn(40), 6);
        CHECKS.is("needIn(999)", x.needIn(999), 1);
        x.pass(2);
        x.sail(0, 4);
        x.sail(1, 6);
        x.open(2);
        x.close();
        CHECKS.is("needIn(0) with boats out", x.needIn(0), 4);
        CHECKS.is("needIn(3) ahead of the first BACK", x.needIn(3), 4);
        CHECKS.is("needIn(4) on the first BACK", x.needIn(4), 5);
        CHECKS.is("needIn(5)", x.needIn(5), 5);
        CHECKS.is("needIn(6) on the second BACK", x.needIn(6), 6);
        CHECKS.is("needIn(8) in the next season", x.needIn(8), 3);
        x.pass(9);
        CHECKS.is("needIn(0), nothing fixed matters", x.needIn(0), 3);
        CHECKS.is("value(6), fixed", x.value(6), 4);
    }

    private static void bestDay() {
        StickVotes x = Villages.of(Villages.numbers(10, "100 50 50 0", 1, 1, 1, 3, 1) + SIX);
        CHECKS.is("bestDay(0)", x.bestDay(0), -1);
        CHECKS.is("bestDay(100)", x.bestDay(100), -1);
        CHECKS.is("bestDay(-1)", x.bestDay(-1), -1);
        CHECKS.is("bestDay(9): all are alike", x.bestDay(9), 0);
        CHECKS.is("bestDay(10): the next season", x.bestDay(10), 10);
        CHECKS.is("bestDay(29): the one behind is alike", x.bestDay(29), 10);
        CHECKS.is("bestDay(30): the last season", x.bestDay(30), 30);
        CHECKS.is("bestDay(99)", x.bestDay(99), 30);
        x.sail(0, 33);
        // Behind 30 days NEED is LEAST already; behind 33 days a and b are ashore, too.
        CHECKS.is("bestDay(32)", x.bestDay(32), 30);
        CHECKS.is("bestDay(33)", x.bestDay(33), 33);
        StickVotes y = Villages.of(Villages.numbers(100, "100 0 0 0", 3, 1, 1, 3, 1) + SIX);
        y.sail(0, 5);
        CHECKS.is("a boat at sea helps", y.bestDay(9), 0);
        CHECKS.is("needIn(0)", y.needIn(0), 3);
        y.open(2);
        y.lay(3, 3, 0);
        y.close();
        CHECKS.is("fixed ones do not matter", y.bestDay(9), 0);
    }

    private static void bestDayOfTheRichestVillage() {
        StickVotes x = Villages.of(Villages.numbers(100, "0 0 0 0", 0, 1, 1, 3, 1) + SIX);
        x.sail(0, 99);
        CHECKS.is("bestDay(98)", x.bestDay(98), 0);
        CHECKS.is("bestDay(99)", x.bestDay(99), 99);
        x.pass(1);
        x.sail(1, 98);
        CHECKS.is("both come on one day", x.bestDay(99), 98);
        CHECKS.is("bestDay(97)", x.bestDay(97), 0);
        x.comeHome(0);
        x.comeHome(1);
        x.sail(1, 1);
        CHECKS.is("the next day", x.bestDay(1), 1);
        CHECKS.is("the next day of several alike", x.bestDay(9), 1);
        x.join(1, -2);
        x.sail(0, 3);
        CHECKS.is("the day on which the eldest one comes", x.bestDay(9), 3);
    }

    private static void mightiest() {
        StickVotes x = six(1, 2);
        CHECKS.is("mightiest() of none", x.mightiest(), -2);
        x.give(0, 4, -2);
        x.give(1, 3, 1);
        x.give(2, 4, -2);
        CHECKS.is("mightiest(), all owners ashore", x.mightiest(), -2);
        x.sail(0, 9);
        CHECKS.is("mightiest(), the eldest of two", x.mightiest(), 3);
        x.sail(1, 9);
        CHECKS.is("mightiest()", x.mightiest(), 4);
        x.open(2);
        x.lay(4, 0, 0);
        CHECKS.is("e carries one and laid one", x.mightiest(), 3);
        x.lay(3, 1, 0);
        CHECKS.is("d laid one", x.mightiest(), -2);
        x.close();
        CHECKS.is("none is open: e carries one", x.mightiest(), 4);
        x.open(2);
        CHECKS.is("the next vote", x.mightiest(), 4);
        StickVotes y = Villages.of(Villages.numbers(10, "0 0 0 0", 0, 1, 1, 5, 1)
            + SIX.replace("d;", "d of s;"));
        y.give(0, 4, -2);
        y.give(1, 4, -2);
        y.give(2, 4, -2);
        y.give(3, 5, -2);
        y.sail(0, 9);
        y.sail(1, 9);
        CHECKS.is("CARRY at most is counted", y.mightiest(), 4);
        y.open(2);
        y.lay(4, 0, 0);
        CHECKS.is("counted, and then less those laid", y.mightiest(), 5);
        y.contest(5, 0);
        y.lay(5, 3, 0);
        CHECKS.is("0 or less for all", y.mightiest(), -2);
        StickVotes v = six(1, 1);
        v.give(2, 0, -2);
        v.sail(1, 9);
        CHECKS.is("the eldest of all", v.mightiest(), 0);
        StickVotes z = six(1, 0);
        z.give(0, 4, -2);
        z.sail(0, 9);
        CHECKS.is("with CARRY 0", z.mightiest(), -2);
        StickVotes w = six(1, 9);
        w.give(0, 2, -2);
        w.give(1, 2, -2);
        w.give(3, 5, -2);
        w.sail(0, 9);
        w.sail(1, 9);
        CHECKS.is("a carrier at sea", w.mightiest(), -2);
        w.comeHome(1);
        CHECKS.is("a carrier ashore", w.mightiest(), 2);
    }

    private static void askingChangesNothing() {
        String behind = Villages.everything(new Again(100, () -> {
            StickVotes x = twoAreLaid();
            askMuch(x);
            return x;
        }));
        CHECKS.is("all stays", behind, Villages.everything(new Again(100, WouldBeTest::twoAreLaid)));
        StickVotes x = twoAreLaid();
        askMuch(x);
        CHECKS.is("undo()", x.undo(), 4);
    }

    private static StickVotes twoAreLaid() {
        StickVotes x = six(2, 1);
        x.give(0, 3, 1);
        x.sail(0, 9);
        x.open(3);
        x.lay(3, 0, 0);
        x.lay(4, 4, 0);
        return x;
    }

    private static void askMuch(StickVotes x) {
        for (int i = -2; i < 8; i++) {
            x.needIfHome(i);
            x.canWin(i);
            x.needIn(i);
            x.bestDay(i);
            x.why(i, 0, 0);
        }
        x.truly();
        x.decisive();
        x.leads();
        x.lacks();
        x.mightiest();
        x.agrees();
    }
}
