import java.util.function.Supplier;
import java.util.function.ToIntFunction;

/**
 * Calls that are refused. Each is made on a village of its own; all that can be asked of it then has
 * to be as in its twin, on which it was not made: what there is, the undo steps, the slots, the tape
 * and the error position. Neither of the two is used for more than 512 calls.
 */
final class Twins {
    private static final int[] GLANCE = {0, 4, 5, 7, 8, 11, 12, 13, 14};

    private Twins() {
    }

    static void refused(Checks checks, String call, Supplier<StickVotes> village,
            ToIntFunction<StickVotes> refusedCall, int due) {
        StickVotes called = village.get();
        checks.is(call, refusedCall.applyAsInt(called), due);
        checks.is("what changes by " + call, difference(inside(called), inside(village.get())), "nothing");
    }

    /** A village is as another one in all that can be asked, behind undo() and restore(), too. */
    static void alike(Checks checks, String what, StickVotes one, StickVotes other) {
        checks.is("what differs " + what, difference(inside(one), inside(other)), "nothing");
    }

    private static String difference(String got, String due) {
        String[] gotLines = got.split("\n");
        String[] dueLines = due.split("\n");
        for (int i = 0; i < gotLines.length && i < dueLines.length; i++) {
            if (!gotLines[i].equals(dueLines[i])) return gotLines[i] + " in place of " + dueLines[i];
        }
        return gotLines.length == dueLines.length ? "nothing" : "the number of lines";
    }

    /** All that an object holds; the object is used up by the asking. */
    private static String inside(StickVotes x) {
        StringBuilder all = new StringBuilder("errorPosition " + x.errorPosition() + "\n");
        all.append(shown(x));
        int left = x.undo();
        for (int steps = 0; left >= 0 && steps < 9; steps++) {
            all.append("undo ").append(left).append(glance(x));
            left = x.undo();
        }
        for (int slot = 0; slot < 2; slot++) {
            all.append("slot ").append(slot).append(' ').append(x.restore(slot)).append(glance(x));
        }
        all.append("tape ").append(x.tapeLength()).append('\n');
        return all.append("load ").append(x.load()).append(' ').append(x.errorPosition()).toString();
    }

    private static String glance(StickVotes x) {
        StringBuilder line = new StringBuilder(":");
        for (int what : GLANCE) line.append(' ').append(x.value(what));
        return line.append('\n').toString();
    }

    private static String shown(StickVotes x) {
        StringBuilder all = new StringBuilder();
        for (int what = 0; what <= 16; what++) row(all, "value " + what, x.value(what));
        for (int what = 0; what <= 9; what++) row(all, "number " + what, x.number(what));
        int people = x.value(2);
        int boats = x.value(3);
        int entries = x.value(14);
        for (int p = 0; p < people; p++) {
            for (int what = 0; what <= 6; what++) row(all, "person " + p + " " + what, x.person(p, what));
            for (int what = 0; what <= 5; what++) row(all, "stick " + p + " " + what, x.stick(p, what));
        }
        for (int b = 0; b < boats; b++) {
            for (int what = 0; what <= 4; what++) row(all, "boat " + b + " " + what, x.boat(b, what));
        }
        for (int v = 0; v < 3; v++) {
            for (int what = 0; what <= 3; what++) row(all, "past " + v + " " + what, x.past(v, what));
        }
        for (int i = 0; i < entries; i++) {
            for (int what = 0; what <= 3; what++) row(all, "log " + i + " " + what, x.log(i, what));
        }
        row(all, "agrees", x.agrees() ? 1 : 0);
        return all.toString();
    }

    private static void row(StringBuilder all, String what, int answer) {
        all.append(what).append(" is ").append(answer).append('\n');
    }
}
