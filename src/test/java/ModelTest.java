import java.util.ArrayList;
import java.util.List;
import java.util.function.ToIntFunction;

/**
 * Long runs of operations on many villages, each answer held against Model's. The runs are always the
 * same. What there is and would be is asked of villages on which all was done once more, as no object is
 * to be used for more than 512 calls.
 */
public final class ModelTest {
    private static final Checks CHECKS = new Checks("ModelTest");
    private static final int VILLAGES = 400;
    private static final int STEPS = 250;
    private static final int STEPS_TO_ASK = 10;
    private static final int CALLS_OF_OF = 42;

    private long seed = 20261119;
    private String setup;
    private StickVotes x;
    private Model m;
    private final List<ToIntFunction<StickVotes>> done = new ArrayList<>();
    private final List<String> names = new ArrayList<>();
    private final List<String> boatNames = new ArrayList<>();

    private ModelTest() {
    }

    public static void main(String[] args) {
        ModelTest test = new ModelTest();
        for (int village = 0; village < VILLAGES; village++) test.runVillage(village);
        CHECKS.end();
    }

    /** A number from 0 to bound - 1, always the same ones in the same order. */
    private int next(int bound) {
        seed = seed * 6364136223846793005L + 1442695040888963407L;
        return (int) ((seed >>> 33) % bound);
    }

    private void runVillage(int village) {
        makeVillage();
        for (int step = 0; step < STEPS; step++) {
            String call = "village " + village + ", step " + step + ": ";
            operate(call);
            if (step % STEPS_TO_ASK == STEPS_TO_ASK - 1) askAll(call);
        }
    }

    private void makeVillage() {
        int people = 2 + (next(4) == 0 ? next(19) : next(6));
        int boats = next(3) == 0 ? next(7) : next(3);
        int[] numbers = {1 + (next(2) == 0 ? next(100) : next(8)), share(), share(), share(), share(),
            next(4) == 0 ? next(10) : next(2), 1 + (next(8) == 0 ? next(20) : next(2)),
            next(4) == 0 ? next(10) : next(3), next(4) == 0 ? next(31) : next(8), next(4)};
        int[] boatOf = new int[people];
        names.clear();
        boatNames.clear();
        for (int b = 0; b < boats; b++) boatNames.add("boa" + (char) ('a' + b));
        for (int p = 0; p < people; p++) {
            names.add("p" + (char) ('a' + p));
            boatOf[p] = boats == 0 || next(3) == 0 ? Model.NONE : next(boats);
        }
        m = new Model(numbers, boats, boatOf);
        setup = m.setup(boatNames, names);
        x = Villages.of(setup);
        done.clear();
    }

    private StickVotes madeAgain() {
        StickVotes again = Villages.of(setup);
        for (ToIntFunction<StickVotes> operation : done) operation.applyAsInt(again);
        return again;
    }

    private void does(String call, ToIntFunction<StickVotes> operation, int due) {
        CHECKS.is(call, operation.applyAsInt(x), due);
        done.add(operation);
    }

    private int share() {
        return next(3) == 0 ? next(101) : next(60);
    }

    /** Mostly a number below the bound, sometimes one that is a little off. */
    private int about(int bound) {
        return next(25) == 0 ? next(bound + 5) - 3 : next(Math.max(bound, 1));
    }

    private int somebody() {
        return about(m.value(2));
    }

    private int someBoat() {
        return about(m.boats);
    }

    private int someBasket() {
        return about(next(3) == 0 ? 4 : 2);
    }

    private int someDays() {
        return next(20) == 0 ? next(102) - 1 : 1 + next(6);
    }

    private void operate(String call) {
        int p = somebody();
        int o = next(3) == 0 ? p : somebody();
        int b = someBasket();
        int boat = someBoat();
        int days = someDays();
        int slot = about(2);
        switch (next(22)) {
            case 0: does(call + "sail", v -> v.sail(boat, days), m.sail(boat, days)); break;
            case 1: does(call + "delay", v -> v.delay(boat, days), m.delay(boat, days)); break;
            case 2: does(call + "comeHome", v -> v.comeHome(boat), m.comeHome(boat)); break;
            case 3: join(call, p, next(3) == 0 ? -2 : boat); break;
            case 4: case 5: open(call, next(20) == 0 ? next(9) - 2 : 2 + next(3)); break;
            case 6: case 7: case 8: give(call, p, somebody(), next(2) == 0 ? -2 : b); break;
            case 9: does(call + "takeBack", v -> v.takeBack(p), m.takeBack(p)); break;
            case 10: case 11: case 12: case 13: lay(call, layer(p, o), o, b); break;
            case 14: case 15: contest(call, p, o); break;
            case 16: if (next(2) == 0) does(call + "close", v -> v.close(), m.close()); break;
            case 17: does(call + "recount", v -> v.recount(), m.recount()); break;
            case 18: does(call + "pass", v -> v.pass(days), m.pass(days)); break;
            case 19: does(call + "keep", v -> v.keep(slot), m.keep(slot)); break;
            case 20: does(call + "undo", v -> v.undo(), m.undo()); break;
            default: if (next(2) == 0) does(call + "restore", v -> v.restore(slot), m.restore(slot));
        }
    }

    /** Mostly who has the stick, so that many of them are laid. */
    private int layer(int person, int owner) {
        int carrier = m.stick(owner, 1);
        if (next(4) == 0) return person;
        return carrier >= 0 ? carrier : owner;
    }

    private void join(String call, int p, int boat) {
        does(call + "join", v -> v.join(p, boat), m.join(p, boat));
    }

    private void open(String call, int baskets) {
        does(call + "open", v -> v.open(baskets), m.open(baskets));
    }

    private void give(String call, int o, int c, int b) {
        does(call + "give", v -> v.give(o, c, b), m.give(o, c, b));
    }

    private void lay(String call, int p, int o, int b) {
        is(call + "why", x.why(p, o, b), m.why(p, o, b));
        does(call + "lay", v -> v.lay(p, o, b), m.lay(p, o, b));
    }

    private void contest(String call, int p, int o) {
        does(call + "contest", v -> v.contest(p, o), m.contest(p, o));
    }

    private void askAll(String call) {
        Again x = new Again(CALLS_OF_OF + done.size(), this::madeAgain);
        for (int what = -1; what <= 17; what++) is(call + "value " + what, x.get().value(what), m.value(what));
        for (int i = -1; i <= m.value(2); i++) askPerson(call, x, i);
        for (int b = -1; b <= m.boats; b++) {
            for (int what = -1; what <= 5; what++) is(call + "boat", x.get().boat(b, what), m.boat(b, what));
            is(call + "needIfHome", x.get().needIfHome(b), m.needIfHome(b));
        }
        for (int b = -1; b <= 4; b++) askBasket(call, x, b);
        for (int v = -1; v <= m.value(13); v++) {
            for (int what = -1; what <= 4; what++) is(call + "past", x.get().past(v, what), m.past(v, what));
        }
        for (int i = -1; i <= 31; i += 4) {
            for (int what = -1; what <= 4; what++) is(call + "log", x.get().log(i, what), m.log(i, what));
        }
        is(call + "wrongOnes", x.get().wrongOnes(), m.wrongOnes());
        is(call + "leads", x.get().leads(), m.leads());
        is(call + "truly", x.get().truly(), m.truly());
        is(call + "decisive", x.get().decisive(), m.decisive());
        is(call + "lacks", x.get().lacks(), m.lacks());
        int days = next(1002) - 1;
        is(call + "needIn", x.get().needIn(days), m.needIn(days));
        is(call + "needIn", x.get().needIn(days % 9), m.needIn(days % 9));
        is(call + "bestDay", x.get().bestDay(days % 101), m.bestDay(days % 101));
        is(call + "mightiest", x.get().mightiest(), m.mightiest());
        CHECKS.is(call + "agrees", x.get().agrees(), m.agrees());
        CHECKS.isReal(call + "seafaring", x.get().seafaring(), m.seafaring());
        CHECKS.is(call + "view", Villages.view(x), m.view(names));
        CHECKS.is(call + "story", Villages.story(x), m.story());
        CHECKS.is(call + "setup", Villages.setup(x), m.setup(boatNames, names));
    }

    private void askPerson(String call, Again x, int i) {
        for (int what = -1; what <= 7; what++) {
            is(call + "person " + i + " " + what, x.get().person(i, what), m.person(i, what));
        }
        for (int what = -1; what <= 6; what++) {
            is(call + "stick " + i + " " + what, x.get().stick(i, what), m.stick(i, what));
        }
        is(call + "carries " + i, x.get().carries(i), m.carries(i));
    }

    private void askBasket(String call, Again x, int b) {
        is(call + "basket " + b, x.get().basket(b), m.basket(b));
        is(call + "owners " + b, x.get().owners(b), m.owners(b));
        CHECKS.is(call + "canWin " + b, x.get().canWin(b), m.canWin(b));
        CHECKS.isReal(call + "share " + b, x.get().share(b), m.share(b));
    }

    private void is(String call, int got, int due) {
        CHECKS.is(call, got, due);
    }
}
