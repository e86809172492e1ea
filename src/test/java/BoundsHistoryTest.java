import java.util.function.Supplier;
import java.util.function.ToIntFunction;

/**
 * The sentences of DOC.md that name a boundary: operations (section 8), and promises 18 to 20: the
 * slots and undo().
 */
public final class BoundsHistoryTest {
    private static final Checks CHECKS = new Checks("BoundsHistoryTest");

    private BoundsHistoryTest() {
    }

    public static void main(String[] args) {
        operationsAtSea();
        operationsWithSticks();
        operationsOfVotes();
        operationsOfDays();
        noOperations();
        latestEight();
        undoComesRound();
        undoLeaves();
        keep();
        keepInPlace();
        restore();
        restoreAsKept();
        undo();
        undoOfRestores();
        timeOfContests();
        CHECKS.end();
    }

    // ---- villages

    /** Two people of the boat 0, one of 1, none of 2, two of none; no operation so far. */
    private static StickVotes fresh() {
        return Villages.crowd(Villages.numbers(10, "0 0 0 0", 0, 1, 1, 3, 1), 5, 3, p -> p < 2 ? 0 : p == 2 ? 1 : -2);
    }

    /** Boats 1 and 2 are out: two operations. */
    private static StickVotes out() {
        StickVotes x = fresh();
        x.sail(1, 1);
        x.sail(2, 9);
        return x;
    }

    /** A vote with a wrong stick (0) and a right one (1), laid by 3 and 1; 4's is carried: five operations. */
    private static StickVotes voting() {
        StickVotes x = fresh();
        x.give(0, 3, 1);
        x.give(4, 0, -2);
        x.open(2);
        x.lay(3, 0, 1);
        x.lay(1, 1, 0);
        return x;
    }

    private static StickVotes closed() {
        StickVotes x = voting();
        x.close();
        return x;
    }

    /** A call is an operation: undo() makes the village as it was ahead of it, in everything. */
    private static void isOperation(String call, Supplier<StickVotes> village, int earlier,
            ToIntFunction<StickVotes> operation, int due) {
        StickVotes x = village.get();
        CHECKS.is(call, operation.applyAsInt(x), due);
        CHECKS.is("undo() of " + call, x.undo(), earlier);
        Twins.alike(CHECKS, "behind undo() of " + call, x, village.get());
        StickVotes y = village.get();
        y.keep(1);
        operation.applyAsInt(y);
        y.restore(1);
        y.undo();
        CHECKS.is("undo() of restore() and of " + call, y.undo(), earlier);
        StickVotes twin = village.get();
        twin.keep(1);
        Twins.alike(CHECKS, "behind undo() of restore() and of " + call, y, twin);
    }

    private static void operationsAtSea() {
        String words = "Operations are the calls of sail(), delay(), comeHome(), join(), open(), give(), takeBack(), lay(), contest(), close(), recount(), pass() and restore() that return 0 or more.";
        Supplier<StickVotes> fresh = BoundsHistoryTest::fresh;
        Supplier<StickVotes> out = BoundsHistoryTest::out;
        CHECKS.holds("Section 8", words, () -> {
            isOperation("sail(2, 99)", fresh, 0, x -> x.sail(2, 99), 0);
            isOperation("sail(0, 1)", fresh, 0, x -> x.sail(0, 1), 2);
        });
        CHECKS.holds("Section 8", words, () -> isOperation("delay(1, 1)", out, 2, x -> x.delay(1, 1), 2));
        CHECKS.holds("Section 8", words, () -> {
            isOperation("comeHome(2)", out, 2, x -> x.comeHome(2), 0);
            isOperation("comeHome(1)", out, 2, x -> x.comeHome(1), 1);
        });
        CHECKS.holds("Section 8", words, () -> {
            isOperation("join(3, 0)", fresh, 0, x -> x.join(3, 0), 0);
            isOperation("join(0, -2)", fresh, 0, x -> x.join(0, -2), 1);
        });
    }

    private static void operationsWithSticks() {
        String words = "Operations are the calls of sail(), delay(), comeHome(), join(), open(), give(), takeBack(), lay(), contest(), close(), recount(), pass() and restore() that return 0 or more.";
        Supplier<StickVotes> voting = BoundsHistoryTest::voting;
        CHECKS.holds("Section 8", words, () -> isOperation("give(3, 4, 2)", voting, 5, x -> x.give(3, 4, 2), 1));
        CHECKS.holds("Section 8", words, () -> {
            isOperation("takeBack(4)", voting, 5, x -> x.takeBack(4), 0);
            Supplier<StickVotes> given = () -> {
                StickVotes x = voting();
                x.give(2, 3, 3);
                return x;
            };
            isOperation("takeBack(2)", given, 6, x -> x.takeBack(2), 3);
        });
        CHECKS.holds("Section 8", words, () -> {
            isOperation("lay(3, 3, 1)", voting, 5, x -> x.lay(3, 3, 1), 2);
            isOperation("lay(0, 4, 0), a wrong one", voting, 5, x -> x.lay(0, 4, 0), 2);
        });
        CHECKS.holds("Section 8", words, () -> {
            isOperation("contest(2, 1)", voting, 5, x -> x.contest(2, 1), 0);
            isOperation("contest(2, 0)", voting, 5, x -> x.contest(2, 0), 1);
            isOperation("contest(2, 0) behind the closing", BoundsHistoryTest::closed, 6, x -> x.contest(2, 0), 1);
        });
    }

    private static void operationsOfVotes() {
        String words = "Operations are the calls of sail(), delay(), comeHome(), join(), open(), give(), takeBack(), lay(), contest(), close(), recount(), pass() and restore() that return 0 or more.";
        CHECKS.holds("Section 8", words, () -> {
            isOperation("open(4)", BoundsHistoryTest::fresh, 0, x -> x.open(4), 0);
            isOperation("open(4), sticks are put back", BoundsHistoryTest::closed, 6, x -> x.open(4), 1);
        });
        CHECKS.holds("Section 8", words, () -> {
            Supplier<StickVotes> empty = () -> {
                StickVotes x = fresh();
                x.open(3);
                return x;
            };
            isOperation("close() of none", empty, 1, StickVotes::close, 0);
            isOperation("close() of two", BoundsHistoryTest::voting, 5, StickVotes::close, 2);
        });
        CHECKS.holds("Section 8", words, () -> {
            isOperation("recount() of one", BoundsHistoryTest::closed, 6, StickVotes::recount, 1);
            Supplier<StickVotes> clean = () -> {
                StickVotes x = fresh();
                x.open(2);
                x.lay(1, 1, 0);
                x.close();
                return x;
            };
            isOperation("recount() of none", clean, 3, StickVotes::recount, 0);
        });
    }

    private static void operationsOfDays() {
        String words = "Operations are the calls of sail(), delay(), comeHome(), join(), open(), give(), takeBack(), lay(), contest(), close(), recount(), pass() and restore() that return 0 or more.";
        CHECKS.holds("Section 8", words, () -> {
            isOperation("pass(99)", BoundsHistoryTest::fresh, 0, x -> x.pass(99), 0);
            isOperation("pass(1)", BoundsHistoryTest::out, 2, x -> x.pass(1), 1);
        });
        CHECKS.holds("Section 8", words, () -> {
            Supplier<StickVotes> first = () -> {
                StickVotes x = fresh();
                x.keep(0);
                x.pass(3);
                return x;
            };
            isOperation("restore(0) of the DAY 0", first, 1, x -> x.restore(0), 0);
            Supplier<StickVotes> third = () -> {
                StickVotes x = first.get();
                x.keep(0);
                x.sail(0, 1);
                return x;
            };
            isOperation("restore(0) of the DAY 3", third, 2, x -> x.restore(0), 3);
        });
    }

    private static void noOperations() {
        CHECKS.holds("Section 8", "Operations are the calls of", () -> {
            StickVotes x = fresh();
            x.append(1, 2, 3, 4, 5);
            x.truncate(20);
            x.keep(0);
            x.keep(1);
            Villages.everything(x);
            CHECKS.is("undo() behind none", x.undo(), -1);
            Villages.put(x, "season");
            x.load();
            CHECKS.is("undo() behind a load() with an error", x.undo(), -1);
        });
        CHECKS.holds("Section 8", "that return 0 or more", () -> {
            StickVotes x = fresh();
            x.pass(1);
            x.sail(3, 1);
            x.sail(0, 0);
            x.delay(0, 1);
            x.comeHome(0);
            x.join(0, 0);
            x.open(5);
            x.give(0, 0, 0);
            x.takeBack(0);
            x.lay(0, 0, 0);
            x.contest(0, 0);
            x.close();
            x.recount();
            x.pass(0);
            x.restore(0);
            CHECKS.is("undo() behind refused calls", x.undo(), 0);
            CHECKS.is("DAY", x.value(0), 0);
            CHECKS.is("undo() of none", x.undo(), -1);
        });
    }

    private static void latestEight() {
        for (int operations = 0; operations <= 18; operations++) {
            int done = operations;
            CHECKS.holds("Section 8", "The latest 8 of them can be undone", () -> {
                StickVotes x = fresh();
                for (int i = 0; i < done; i++) x.pass(1);
                int most = Math.min(done, 8);
                for (int left = most - 1; left >= 0; left--) {
                    CHECKS.is("undo() of " + done, x.undo(), left);
                    CHECKS.is("DAY", x.value(0), done - most + left);
                }
                CHECKS.is("undo() beyond", x.undo(), -1);
                CHECKS.is("DAY beyond", x.value(0), done - most);
                CHECKS.is("undo() beyond, again", x.undo(), -1);
            });
        }
    }

    private static void undoComesRound() {
        CHECKS.holds("Section 8", "The latest 8 of them can be undone", () -> {
            StickVotes x = fresh();
            for (int i = 0; i < 8; i++) x.pass(1);
            for (int i = 0; i < 3; i++) x.undo();
            CHECKS.is("DAY behind three of eight", x.value(0), 5);
            for (int i = 0; i < 3; i++) x.pass(2);
            for (int left = 7; left >= 5; left--) {
                CHECKS.is("undo()", x.undo(), left);
                CHECKS.is("DAY", x.value(0), 5 + 2 * (left - 5));
            }
            for (int left = 4; left >= 0; left--) {
                CHECKS.is("undo()", x.undo(), left);
                CHECKS.is("DAY", x.value(0), left);
            }
            CHECKS.is("undo() of none", x.undo(), -1);
        });
        CHECKS.holds("Section 8", "The latest 8 of them can be undone", () -> {
            StickVotes x = fresh();
            for (int i = 0; i < 40; i++) {
                x.pass(2);
                x.pass(1);
                CHECKS.is("undo() of every other one", x.undo(), Math.min(i + 1, 7));
                CHECKS.is("DAY", x.value(0), 2 * i + 2);
            }
            for (int left = 6; left >= 0; left--) CHECKS.is("undo()", x.undo(), left);
            CHECKS.is("DAY behind all", x.value(0), 66);
        });
        CHECKS.holds("Promise 20", "Undoes the latest operation (section 8) that has not been undone.", () -> {
            StickVotes x = fresh();
            x.pass(1);
            x.pass(10);
            CHECKS.is("undo()", x.undo(), 1);
            CHECKS.is("DAY", x.value(0), 1);
            x.pass(20);
            CHECKS.is("undo()", x.undo(), 1);
            CHECKS.is("DAY", x.value(0), 1);
            CHECKS.is("undo()", x.undo(), 0);
            CHECKS.is("DAY", x.value(0), 0);
        });
    }

    private static void undoLeaves() {
        String words = "undo() leaves the slots, the tape and the error position as they are.";
        CHECKS.holds("Section 8", words, () -> {
            StickVotes x = fresh();
            x.pass(5);
            x.keep(0);
            x.pass(1);
            x.keep(1);
            x.undo();
            CHECKS.is("undo() of what was ahead of keep()", x.undo(), 0);
            CHECKS.is("DAY", x.value(0), 0);
            CHECKS.is("restore(0)", x.restore(0), 5);
            CHECKS.is("restore(1)", x.restore(1), 6);
        });
        CHECKS.holds("Section 8", words, () -> {
            StickVotes x = fresh();
            x.pass(5);
            Villages.put(x, "season !");
            x.undo();
            CHECKS.is("tapeLength()", x.tapeLength(), 8);
            x.load();
            CHECKS.is("errorPosition() of what is on the tape", x.errorPosition(), 7);
        });
        CHECKS.holds("Section 8", words, () -> {
            StickVotes x = fresh();
            x.pass(5);
            Villages.put(x, "season !");
            x.load();
            x.undo();
            CHECKS.is("errorPosition()", x.errorPosition(), 7);
            CHECKS.is("DAY", x.value(0), 0);
        });
    }

    private static void keep() {
        CHECKS.holds("Promise 18", "`slot`: 0 or 1", () -> {
            StickVotes x = fresh();
            int[] wrongs = {-1, 2, -2, 3, Integer.MIN_VALUE, Integer.MAX_VALUE};
            for (int slot : wrongs) CHECKS.is("keep(" + slot + ")", x.keep(slot), -1);
            CHECKS.is("restore(0)", x.restore(0), -2);
            CHECKS.is("restore(1)", x.restore(1), -2);
            CHECKS.is("keep(0)", x.keep(0), 0);
            CHECKS.is("restore(1), only 0 is kept", x.restore(1), -2);
            CHECKS.is("keep(1)", x.keep(1), 0);
            CHECKS.is("restore(1)", x.restore(1), 0);
        });
        CHECKS.holds("Promise 18", "Returns DAY", () -> {
            StickVotes x = fresh();
            CHECKS.is("keep(1) on the DAY 0", x.keep(1), 0);
            x.pass(99);
            CHECKS.is("keep(1) on the DAY 99", x.keep(1), 99);
            CHECKS.is("keep(0) on the DAY 99", x.keep(0), 99);
        });
    }

    private static void keepInPlace() {
        CHECKS.holds("Promise 18", "Keeps everything that operations change in a slot, in place of what it had.", () -> {
            StickVotes x = fresh();
            x.keep(0);
            x.keep(1);
            x.pass(3);
            x.keep(0);
            x.pass(4);
            CHECKS.is("restore(0), kept in place", x.restore(0), 3);
            CHECKS.is("restore(1), as it was", x.restore(1), 0);
            x.pass(1);
            x.keep(1);
            x.pass(1);
            CHECKS.is("restore(1), kept in place", x.restore(1), 1);
            CHECKS.is("restore(0), as it was", x.restore(0), 3);
        });
        CHECKS.holds("Promise 18", "Keeps everything that operations change in a slot", () -> {
            StickVotes x = voting();
            x.keep(0);
            StickVotes twin = voting();
            twin.keep(0);
            x.append(1, 2, 3, 4, 5);
            x.truncate(20);
            x.close();
            x.restore(0);
            CHECKS.is("undo() of restore() and of close()", x.undo() * 10 + x.undo(), 65);
            Twins.alike(CHECKS, "behind both", x, twin);
        });
    }

    private static void restore() {
        CHECKS.holds("Promise 19", "`slot`: 0 or 1", () -> {
            StickVotes x = fresh();
            x.keep(0);
            x.keep(1);
            x.pass(1);
            int[] wrongs = {-1, 2, -2, 3, Integer.MIN_VALUE, Integer.MAX_VALUE};
            for (int slot : wrongs) CHECKS.is("restore(" + slot + ")", x.restore(slot), -1);
            CHECKS.is("DAY", x.value(0), 1);
            CHECKS.is("restore(0)", x.restore(0), 0);
            CHECKS.is("restore(1)", x.restore(1), 0);
        });
        CHECKS.holds("Promise 19", "NOT_FOUND if the slot is empty.", () -> {
            StickVotes x = fresh();
            CHECKS.is("restore(0), both are empty", x.restore(0), -2);
            CHECKS.is("restore(1), both are empty", x.restore(1), -2);
            x.keep(1);
            CHECKS.is("restore(0), 1 is not empty", x.restore(0), -2);
            Villages.put(x, "season");
            x.load();
            CHECKS.is("restore(1) behind a load() with an error", x.restore(1), 0);
            Villages.put(x, Villages.PORT);
            x.load();
            CHECKS.is("restore(1) behind a load()", x.restore(1), -2);
        });
    }

    private static void restoreAsKept() {
        CHECKS.holds("Promise 19", "Makes everything that operations change as it was kept in a slot; the slot keeps it.", () -> {
            StickVotes x = voting();
            String due = Villages.view(x) + Villages.story(x);
            x.keep(1);
            for (int turn = 0; turn < 3; turn++) {
                x.contest(2, 1);
                x.contest(4, 0);
                x.lay(3, 3, 1);
                x.join(4, 2);
                x.sail(0, 5);
                x.pass(2);
                x.close();
                x.open(4);
                CHECKS.is("restore(1)", x.restore(1), 0);
                CHECKS.is("view and story", Villages.view(x) + Villages.story(x), due);
                CHECKS.is("faults", x.person(2, 3), 0);
                CHECKS.is("votes", x.value(13), 1);
                CHECKS.is("sailings", x.boat(0, 4), 0);
                CHECKS.is("days at sea", x.person(0, 6), 0);
                CHECKS.is("boat of 4", x.person(4, 0), -2);
            }
        });
        CHECKS.holds("Promise 19", "the slot keeps it.", () -> {
            StickVotes x = fresh();
            x.keep(0);
            x.pass(9);
            x.restore(0);
            x.pass(1);
            CHECKS.is("DAY", x.value(0), 1);
            CHECKS.is("restore(0) again", x.restore(0), 0);
            x.undo();
            CHECKS.is("DAY behind undo()", x.value(0), 1);
            CHECKS.is("restore(0) behind undo()", x.restore(0), 0);
        });
        CHECKS.holds("Promise 19", "Returns DAY then", () -> {
            StickVotes x = fresh();
            x.pass(99);
            x.keep(0);
            x.pass(99);
            x.keep(1);
            CHECKS.is("restore(0), back", x.restore(0), 99);
            CHECKS.is("restore(1), forth", x.restore(1), 198);
        });
    }

    private static void undo() {
        CHECKS.holds("Promise 20", "Returns the number of operations that can still be undone; INVALID if there is none.", () -> {
            StickVotes x = fresh();
            CHECKS.is("undo() of none", x.undo(), -1);
            x.pass(1);
            CHECKS.is("undo() of one", x.undo(), 0);
            CHECKS.is("undo() of none again", x.undo(), -1);
            for (int i = 0; i < 8; i++) x.pass(1);
            CHECKS.is("undo() of eight", x.undo(), 7);
            x.pass(1);
            x.pass(1);
            CHECKS.is("undo() of nine", x.undo(), 7);
        });
        CHECKS.holds("Promise 4", "nothing can be undone.", () -> {
            StickVotes x = fresh();
            for (int i = 0; i < 9; i++) x.pass(1);
            Villages.put(x, Villages.PORT);
            x.load();
            CHECKS.is("undo() behind load()", x.undo(), -1);
            x.pass(1);
            CHECKS.is("undo() of one behind load()", x.undo(), 0);
            CHECKS.is("undo() of none behind load()", x.undo(), -1);
            CHECKS.is("DAY", x.value(0), 0);
        });
    }

    private static void undoOfRestores() {
        CHECKS.holds("Promise 20", "Undoes the latest operation (section 8) that has not been undone.", () -> {
            StickVotes x = fresh();
            x.keep(0);
            for (int i = 1; i <= 9; i++) {
                x.pass(i);
                x.restore(0);
            }
            for (int i = 9; i >= 6; i--) {
                CHECKS.is("undo() of restore()", x.undo(), 2 * (i - 6) + 1);
                CHECKS.is("DAY", x.value(0), i);
                CHECKS.is("undo() of pass()", x.undo(), 2 * (i - 6));
                CHECKS.is("DAY", x.value(0), 0);
            }
            CHECKS.is("undo() of none", x.undo(), -1);
        });
    }

    /** A vote that was closed on the DAY 5, with APPEAL 3. */
    private static StickVotes closedOnFive() {
        StickVotes x = voting();
        x.pass(5);
        x.close();
        return x;
    }

    private static void endsOnEight(String what, StickVotes x) {
        x.pass(8 - x.value(0));
        CHECKS.is("value(8) on the last day " + what, x.value(8), 2);
        CHECKS.is("contest(2, 0) on the last day " + what, x.contest(2, 0), 1);
        x.pass(1);
        CHECKS.is("value(8) a day later " + what, x.value(8), 3);
        CHECKS.is("contest(2, 1) a day later " + what, x.contest(2, 1), -5);
        CHECKS.is("recount() a day later " + what, x.recount(), -5);
    }

    private static void timeOfContests() {
        CHECKS.holds("Promise 20", "Undoes the latest operation (section 8) that has not been undone.", () -> {
            StickVotes x = closedOnFive();
            x.pass(2);
            x.open(2);
            x.close();
            x.undo();
            x.undo();
            endsOnEight("behind undo() of the next vote", x);
        });
        CHECKS.holds("Promise 19", "Makes everything that operations change as it was kept in a slot", () -> {
            StickVotes x = closedOnFive();
            x.keep(0);
            x.pass(9);
            x.open(2);
            x.close();
            x.restore(0);
            endsOnEight("behind restore()", x);
            x.restore(0);
            endsOnEight("behind restore() again", x);
        });
    }
}
