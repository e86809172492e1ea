import java.util.List;
import java.util.function.Consumer;
import java.util.function.ToIntFunction;

/** Promises 18 to 20 and section 8: slots, undo, and what counts as an operation. */
public final class HistoryTest {
    private static final Checks CHECKS = new Checks("HistoryTest");

    private HistoryTest() {
    }

    public static void main(String[] args) {
        keep();
        restore();
        restoreBringsEverythingBack();
        undo();
        undoReachesEightOperations();
        undoLeavesSlotsTapeAndError();
        whatCountsAsAnOperation();
        refusalsChangeNothing();
        CHECKS.end();
    }

    private static void keep() {
        StickVotes x = Villages.port();
        CHECKS.is("keep(-1)", x.keep(-1), -1);
        CHECKS.is("keep(2)", x.keep(2), -1);
        CHECKS.is("restore(0), empty", x.restore(0), -2);
        x.pass(5);
        CHECKS.is("keep(0)", x.keep(0), 5);
        CHECKS.is("restore(1), empty", x.restore(1), -2);
        x.pass(2);
        CHECKS.is("keep(1)", x.keep(1), 7);
        x.pass(3);
        CHECKS.is("keep(0) in place of the first", x.keep(0), 10);
        x.pass(1);
        CHECKS.is("restore(0)", x.restore(0), 10);
        CHECKS.is("restore(1)", x.restore(1), 7);
        CHECKS.is("keep is no operation", x.undo(), 5);
    }

    private static void restore() {
        StickVotes x = Villages.port();
        CHECKS.is("restore(-1)", x.restore(-1), -1);
        CHECKS.is("restore(2)", x.restore(2), -1);
        CHECKS.is("restore(MIN)", x.restore(Integer.MIN_VALUE), -1);
        CHECKS.is("nothing to undo", x.undo(), -1);
        x.keep(1);
        x.pass(3);
        CHECKS.is("restore(1)", x.restore(1), 0);
        CHECKS.is("DAY", x.value(0), 0);
        CHECKS.is("undo() of restore", x.undo(), 1);
        CHECKS.is("DAY behind undo", x.value(0), 3);
        CHECKS.is("restore(1) again", x.restore(1), 0);
        x.pass(4);
        CHECKS.is("the slot keeps it", x.restore(1), 0);
        CHECKS.is("DAY", x.value(0), 0);
        x.pass(2);
        x.undo();
        CHECKS.is("the slot keeps it behind undo", x.restore(1), 0);
    }

    private static void restoreBringsEverythingBack() {
        String due = everythingBehind(x -> { });
        CHECKS.is("much is changed", everythingBehind(HistoryTest::changeMuch).equals(due), false);
        CHECKS.is("all behind restore", everythingBehind(HistoryTest::changeAndRestore), due);
        CHECKS.is("all behind restore again", everythingBehind(x -> {
            changeAndRestore(x);
            changeMuch(x);
            x.restore(0);
        }), due);
        StickVotes x = busyVillage();
        changeAndRestore(x);
        CHECKS.is("lay() goes on", x.lay(4, 4, 0), 2);
    }

    /** All that can be asked of the busy village behind further calls, up to some 150 of them. */
    private static String everythingBehind(Consumer<StickVotes> calls) {
        return Villages.everything(new Again(200, () -> {
            StickVotes x = busyVillage();
            calls.accept(x);
            return x;
        }));
    }

    private static void changeAndRestore(StickVotes x) {
        x.keep(0);
        changeMuch(x);
        x.restore(0);
    }

    /** A village in the middle of its second vote. */
    private static StickVotes busyVillage() {
        StickVotes x = Villages.port();
        x.give(0, 3, 1);
        x.give(1, 3, -2);
        x.open(2);
        x.lay(2, 2, 0);
        x.contest(3, 2);
        x.close();
        x.sail(0, 9);
        x.pass(2);
        x.open(3);
        x.lay(3, 0, 0);
        x.lay(3, 1, 2);
        x.contest(4, 1);
        x.join(2, -2);
        return x;
    }

    private static void changeMuch(StickVotes x) {
        x.lay(4, 4, 2);
        x.lay(3, 3, 2);
        x.contest(2, 3);
        x.close();
        x.recount();
        x.delay(0, 5);
        x.sail(1, 9);
        x.pass(40);
        x.takeBack(0);
        x.give(4, 0, 1);
        x.join(0, 1);
        x.open(4);
        x.takeBack(1);
        x.lay(2, 2, 3);
    }

    private static void undo() {
        List<ToIntFunction<StickVotes>> eight = List.of(x -> x.lay(4, 4, 2), x -> x.close(),
            x -> x.contest(2, 0), x -> x.recount(), x -> x.delay(0, 1), x -> x.sail(1, 1),
            x -> x.comeHome(0), x -> x.pass(4));
        StickVotes x = busyVillage();
        answer(x, eight, 1, 2, 3, 0, 10, 0, 2, 0);
        for (int i = 7; i >= 0; i--) {
            CHECKS.is("undo() leaves " + i, x.undo(), i);
            CHECKS.is("state behind undo " + i, everythingBehind(eight, 8 - i), everythingBehind(eight.subList(0, i), 0));
        }
        CHECKS.is("undo() of none", x.undo(), -1);
        CHECKS.is("state stays", everythingBehind(eight, 9), everythingBehind(eight, 8));
        List<ToIntFunction<StickVotes>> five = List.of(v -> v.close(), v -> v.join(3, 1), v -> v.open(4),
            v -> v.give(4, 2, -2), v -> v.takeBack(4));
        StickVotes y = busyVillage();
        answer(y, five, 1, 0, 2, 1, 2);
        for (int i = 4; i >= 0; i--) {
            CHECKS.is("undo() leaves " + (i + 3), y.undo(), i + 3);
            CHECKS.is("state behind undo", everythingBehind(five, 5 - i), everythingBehind(five.subList(0, i), 0));
        }
    }

    private static void answer(StickVotes x, List<ToIntFunction<StickVotes>> calls, int... due) {
        CHECKS.is("calls", calls.size(), due.length);
        for (int i = 0; i < due.length; i++) {
            CHECKS.is("call " + i, calls.get(i).applyAsInt(x), due[i]);
        }
    }

    private static String everythingBehind(List<ToIntFunction<StickVotes>> calls, int undos) {
        return everythingBehind(x -> {
            for (ToIntFunction<StickVotes> call : calls) call.applyAsInt(x);
            for (int i = 0; i < undos; i++) x.undo();
        });
    }

    private static void undoReachesEightOperations() {
        StickVotes x = new StickVotes();
        for (int i = 0; i < 20; i++) x.pass(1);
        for (int left = 7; left >= 0; left--) {
            CHECKS.is("undo()", x.undo(), left);
            CHECKS.is("DAY", x.value(0), 12 + left);
        }
        CHECKS.is("undo() beyond 8", x.undo(), -1);
        CHECKS.is("DAY stays", x.value(0), 12);
        for (int i = 0; i < 5; i++) x.pass(2);
        CHECKS.is("undo()", x.undo(), 4);
        CHECKS.is("undo()", x.undo(), 3);
        for (int i = 0; i < 7; i++) x.pass(3);
        CHECKS.is("DAY", x.value(0), 39);
        for (int left = 7; left >= 1; left--) CHECKS.is("undo()", x.undo(), left);
        CHECKS.is("DAY behind 7 of 10", x.value(0), 18);
        CHECKS.is("undo()", x.undo(), 0);
        CHECKS.is("DAY behind 8 of 10", x.value(0), 16);
        CHECKS.is("undo()", x.undo(), -1);
    }

    private static void undoLeavesSlotsTapeAndError() {
        StickVotes x = new StickVotes();
        Villages.put(x, "season x");
        x.load();
        x.pass(4);
        x.keep(0);
        x.append(1, 2, 3, 4, 5);
        CHECKS.is("undo()", x.undo(), 0);
        CHECKS.is("error position stays", x.errorPosition(), 7);
        CHECKS.is("tape stays", x.tapeLength(), 20);
        CHECKS.is("slot stays", x.restore(0), 4);
    }

    private static void whatCountsAsAnOperation() {
        StickVotes x = Villages.port();
        x.keep(0);
        x.append(1, 2, 3, 4, 5);
        x.truncate(20);
        x.load();
        Villages.everything(x);
        x.why(0, 0, 0);
        x.named(1 << 25, true);
        CHECKS.is("none of these is one", x.undo(), -1);
        x.open(2);
        x.lay(0, 0, 0);
        CHECKS.is("contest() that returns 0 is one", x.contest(1, 0), 0);
        x.close();
        CHECKS.is("recount() that returns 0 is one", x.recount(), 0);
        CHECKS.is("join() that returns 0 is one", x.join(3, 1), 0);
        CHECKS.is("restore() that returns 0 is one", x.restore(0), 0);
        CHECKS.is("pass() that returns 0 is one", x.pass(1), 0);
        for (int left = 7; left >= 0; left--) {
            CHECKS.is("undo() leaves", x.undo(), left);
        }
        CHECKS.is("no vote", x.value(8), 0);
    }

    private static void refusalsChangeNothing() {
        String due = everythingBehind(HistoryTest::undoEight);
        CHECKS.is("all stays", everythingBehind(x -> {
            undoEight(x);
            refuseMuch(x);
        }), due);
        StickVotes x = busyVillage();
        undoEight(x);
        refuseMuch(x);
        CHECKS.is("nothing to undo", x.undo(), -1);
    }

    private static void undoEight(StickVotes x) {
        for (int i = 0; i < 8; i++) x.undo();
    }

    private static void refuseMuch(StickVotes x) {
        int[] odd = {-9, -3, -1, 4, 6, 20, 100, Integer.MAX_VALUE, Integer.MIN_VALUE};
        for (int i : odd) {
            CHECKS.is("sail(" + i + ", 1)", x.sail(i, 1), -1);
            CHECKS.is("delay(" + i + ", 1)", x.delay(i, 1), -1);
            CHECKS.is("comeHome(" + i + ")", x.comeHome(i), -1);
            CHECKS.is("join(0, " + i + ")", x.join(0, i), -1);
            CHECKS.is("give(0, 1, " + i + ")", x.give(0, 1, i), -1);
            CHECKS.is("lay(0, 0, " + i + ")", x.lay(0, 0, i), -1);
            CHECKS.is("keep(" + i + ")", x.keep(i), -1);
            CHECKS.is("restore(" + i + ")", x.restore(i), -1);
            if (i == 4) continue;
            CHECKS.is("join(" + i + ", 0)", x.join(i, 0), -1);
            CHECKS.is("open(" + i + ")", x.open(i), -1);
            CHECKS.is("give(" + i + ", 1, 0)", x.give(i, 1, 0), -1);
            CHECKS.is("give(1, " + i + ", 0)", x.give(1, i, 0), -1);
            CHECKS.is("takeBack(" + i + ")", x.takeBack(i), -1);
            CHECKS.is("lay(" + i + ", 0, 0)", x.lay(i, 0, 0), -1);
            CHECKS.is("lay(0, " + i + ", 0)", x.lay(0, i, 0), -1);
            CHECKS.is("contest(" + i + ", 0)", x.contest(i, 0), -1);
            CHECKS.is("contest(0, " + i + ")", x.contest(0, i), -1);
        }
    }
}
