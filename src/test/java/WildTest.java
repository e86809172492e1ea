/**
 * Any ints in any state: no call throws or fails to end, also behind the 512th call. Answers are held
 * against something as long as DOC.md says what they are, up to the 512th call.
 */
public final class WildTest {
    private static final Checks CHECKS = new Checks("WildTest");
    private static final int[] EDGES = {Integer.MIN_VALUE, Integer.MIN_VALUE + 1, -100, -5, -3, -2,
        -1, 0, 1, 2, 3, 4, 5, 6, 7, 8, 9, 16, 17, 19, 20, 21, 30, 31, 99, 100, 999, 1000, 1 << 25,
        1 << 30, Integer.MAX_VALUE - 1, Integer.MAX_VALUE};
    private static final int STEPS = 300000;
    private static final int STEPS_OF_MOST = 240;
    private static final int STEPS_OF_SOME = 5000;

    private long seed = 11;

    private WildTest() {
    }

    public static void main(String[] args) {
        new WildTest().run();
        CHECKS.end();
    }

    private int next(int bound) {
        seed = seed * 6364136223846793005L + 1442695040888963407L;
        return (int) ((seed >>> 33) % bound);
    }

    private int wild() {
        int kind = next(5);
        if (kind == 0) return EDGES[next(EDGES.length)];
        return kind == 1 ? next(Integer.MAX_VALUE) - next(Integer.MAX_VALUE) : next(6);
    }

    /** Most objects are used for up to 512 calls, two a step; some for many more. */
    private void run() {
        for (int steps = 0; steps < STEPS / 2; steps += STEPS_OF_MOST) {
            StickVotes x = next(2) == 0 ? Villages.port() : new StickVotes();
            use(x, STEPS_OF_MOST);
            look(x);
        }
        for (int steps = 0; steps < STEPS / 2; steps += STEPS_OF_SOME) {
            use(next(2) == 0 ? Villages.port() : new StickVotes(), STEPS_OF_SOME);
        }
    }

    private void use(StickVotes x, int steps) {
        for (int i = 0; i < steps; i++) {
            call(x, next(18), wild(), wild(), wild());
            ask(x, next(31), wild(), wild(), wild());
        }
    }

    private void look(StickVotes x) {
        int people = x.value(2);
        CHECKS.is("people", people >= 2 && people <= 20, true);
        CHECKS.is("agrees()", x.agrees(), true);
        CHECKS.is("ashore and at sea", x.value(5) + x.value(15), people);
        CHECKS.is("tape", x.tapeLength() >= 0 && x.tapeLength() <= 800, true);
    }

    private void call(StickVotes x, int call, int a, int b, int c) {
        switch (call) {
            case 0: x.append(a, b, c, a, b); break;
            case 1: x.truncate(a); break;
            case 2: if (next(4) == 0) x.load(); break;
            case 3: x.sail(a, b); break;
            case 4: x.delay(a, b); break;
            case 5: x.comeHome(a); break;
            case 6: x.join(a, b); break;
            case 7: x.open(a); break;
            case 8: x.give(a, b, c); break;
            case 9: x.takeBack(a); break;
            case 10: x.lay(a, b, c); break;
            case 11: x.contest(a, b); break;
            case 12: x.close(); break;
            case 13: x.recount(); break;
            case 14: x.pass(a); break;
            case 15: x.keep(a); break;
            case 16: x.restore(a); break;
            default: x.undo();
        }
    }

    private void ask(StickVotes x, int call, int a, int b, int c) {
        switch (call) {
            case 0: x.errorPosition(); break;
            case 1: x.value(a); break;
            case 2: x.person(a, b); break;
            case 3: x.boat(a, b); break;
            case 4: x.stick(a, b); break;
            case 5: x.basket(a); break;
            case 6: x.number(a); break;
            case 7: x.past(a, b); break;
            case 8: x.log(a, b); break;
            case 9: x.named(a, b > 0); break;
            case 10: x.owners(a); break;
            case 11: x.carries(a); break;
            case 12: x.wrongOnes(); break;
            case 13: x.why(a, b, c); break;
            case 14: x.needIfHome(a); break;
            case 15: x.leads(); break;
            case 16: x.truly(); break;
            case 17: x.canWin(a); break;
            case 18: x.decisive(); break;
            case 19: x.lacks(); break;
            case 20: x.needIn(a); break;
            case 21: x.bestDay(a); break;
            case 22: x.mightiest(); break;
            case 23: x.share(a); break;
            case 24: x.seafaring(); break;
            case 25: x.viewByte(a); break;
            case 26: x.storyByte(a); break;
            case 27: x.setupByte(a); break;
            case 28: x.viewLength(); break;
            case 29: x.storyLength(); break;
            default: x.setupLength();
        }
    }
}
