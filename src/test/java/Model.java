import java.util.ArrayDeque;
import java.util.ArrayList;
import java.util.Collections;
import java.util.Deque;
import java.util.List;
import java.util.function.IntPredicate;
import java.util.stream.Collectors;
import java.util.stream.IntStream;

/**
 * A second StickVotes, for ModelTest alone: written once more from the document, with the Java
 * library and without regard to speed, so that a slip in one of both shows as a difference.
 */
final class Model {
    static final int INVALID = -1;
    static final int NONE = -2;
    static final int AT_SEA = -3;
    static final int NOT_THERE = -4;
    static final int TOO_LATE = -5;

    /** A stick and its owner. A laid stick is one with a basket. */
    static final class Person {
        int boat = NONE;
        boolean sea;
        int faults;
        int seaDays;
        int carrier = NONE;
        int bound = NONE;
        int basket = NONE;
        int laidOn = NONE;
        int wrong;
        boolean struck;

        Person copy() {
            Person p = new Person();
            p.boat = boat;
            p.sea = sea;
            p.faults = faults;
            p.seaDays = seaDays;
            p.carrier = carrier;
            p.bound = bound;
            p.basket = basket;
            p.laidOn = laidOn;
            p.wrong = wrong;
            p.struck = struck;
            return p;
        }

        boolean laid() {
            return basket != NONE;
        }

        boolean counts() {
            return laid() && !struck;
        }
    }

    /** Everything that operations change. */
    static final class World {
        int day;
        List<Person> people = new ArrayList<>();
        int[] back;
        int[] sailed;
        List<int[]> votes = new ArrayList<>();
        List<int[]> log = new ArrayList<>();
        int lays;

        World copy() {
            World w = new World();
            w.day = day;
            for (Person p : people) w.people.add(p.copy());
            w.back = back.clone();
            w.sailed = sailed.clone();
            for (int[] v : votes) w.votes.add(v.clone());
            w.log.addAll(log);
            w.lays = lays;
            return w;
        }
    }

    // A vote: baskets, closed (0, 1), day of closing, NEED, turnout, result, recounts.
    private static final int BASKETS = 0;
    private static final int CLOSED = 1;
    private static final int DAY = 2;
    private static final int NEED = 3;
    private static final int TURNOUT = 4;
    private static final int RESULT = 5;
    private static final int RECOUNTS = 6;

    final int[] numbers;
    final int boats;
    World w = new World();
    final Deque<World> undo = new ArrayDeque<>();
    final World[] slots = new World[2];

    Model(int[] numbers, int boats, int[] boatOf) {
        this.numbers = numbers;
        this.boats = boats;
        w.back = new int[boats];
        w.sailed = new int[boats];
        for (int boat : boatOf) {
            Person p = new Person();
            p.boat = boat;
            w.people.add(p);
        }
    }

    // ---- helpers

    private int n() {
        return w.people.size();
    }

    private boolean person(int p) {
        return p >= 0 && p < n();
    }

    private boolean boat(int b) {
        return b >= 0 && b < boats;
    }

    private boolean basketArgument(int b) {
        return b >= 0 && b <= 3;
    }

    private Person of(int p) {
        return w.people.get(p);
    }

    private int mask(IntPredicate isIn) {
        return IntStream.range(0, n()).filter(isIn).map(p -> 1 << p).sum();
    }

    private int count(IntPredicate isIn) {
        return (int) IntStream.range(0, n()).filter(isIn).count();
    }

    private int out(int onDay) {
        return (int) IntStream.range(0, boats).filter(b -> w.back[b] > onDay).count();
    }

    private int need(int day, int out) {
        int share = numbers[1 + day / numbers[0] % 4];
        int need = (int) Math.ceil(share * n() / 100.0 - 1e-9) - numbers[5] * out;
        return need < numbers[6] ? numbers[6] : need;
    }

    private int needNow() {
        return need(w.day, out(w.day));
    }

    private int[] vote() {
        return w.votes.isEmpty() ? null : w.votes.get(w.votes.size() - 1);
    }

    private boolean open() {
        return vote() != null && vote()[CLOSED] == 0;
    }

    private int needOfVote() {
        return vote() != null && !open() ? vote()[NEED] : needNow();
    }

    private boolean appealable() {
        return vote() != null && !open() && w.day - vote()[DAY] <= numbers[8];
    }

    private void note(int kind, int first, int second) {
        w.log.add(new int[] {w.day, kind, first, second});
    }

    private void operation() {
        undo.push(w);
        if (undo.size() > 8) undo.removeLast();
        w = w.copy();
    }

    /** The result if the people's sticks lie so (NONE: not in a basket). */
    private int result(List<Integer> lies, int need) {
        List<Integer> all = lies.stream().filter(b -> b != NONE).collect(Collectors.toList());
        if (all.isEmpty() || all.size() < need) return NONE;
        int best = all.get(0);
        for (int b : all) {
            int more = Collections.frequency(all, b) - Collections.frequency(all, best);
            if (more > 0 || (more == 0 && lies.indexOf(b) < lies.indexOf(best))) best = b;
        }
        return best;
    }

    private List<Integer> lies() {
        return w.people.stream().map(p -> p.counts() ? p.basket : NONE).collect(Collectors.toList());
    }

    private int turnout() {
        return count(p -> of(p).counts());
    }

    private int comesHome(int b) {
        int home = 0;
        w.back[b] = 0;
        for (Person p : w.people) {
            if (p.boat != b || !p.sea) continue;
            p.sea = false;
            home++;
        }
        note(1, b, home);
        return home;
    }

    private void strike(int owner) {
        of(owner).struck = true;
        note(4, owner, of(owner).wrong);
    }

    private void turn() {
        int[] v = vote();
        int result = result(lies(), v[NEED]);
        v[TURNOUT] = turnout();
        if (v[RESULT] != result) note(7, w.votes.size() - 1, result == NONE ? -1 : result);
        v[RESULT] = result;
    }

    private int laidForOthers(int p) {
        return count(o -> of(o).laid() && of(o).carrier == p);
    }

    // ---- operations

    int sail(int b, int days) {
        if (!boat(b) || days < 1 || days > 99) return INVALID;
        if (w.back[b] != 0) return NOT_THERE;
        operation();
        w.back[b] = w.day + days;
        w.sailed[b]++;
        note(0, b, w.back[b]);
        for (Person p : w.people) p.sea |= p.boat == b;
        return count(p -> of(p).boat == b);
    }

    int delay(int b, int days) {
        if (!boat(b) || days < 1 || days > 99) return INVALID;
        if (w.back[b] == 0) return NOT_THERE;
        operation();
        return w.back[b] += days;
    }

    int comeHome(int b) {
        if (!boat(b)) return INVALID;
        if (w.back[b] == 0) return NOT_THERE;
        operation();
        return comesHome(b);
    }

    int join(int p, int b) {
        if (!person(p) || !(boat(b) || b == NONE)) return INVALID;
        if (of(p).sea) return AT_SEA;
        if (of(p).boat == b) return NONE;
        operation();
        int earlier = of(p).boat;
        of(p).boat = b;
        return earlier == NONE ? 0 : earlier + 1;
    }

    int open(int baskets) {
        if (baskets < 2 || baskets > 4) return INVALID;
        if (open()) return TOO_LATE;
        operation();
        for (Person p : w.people) {
            p.basket = NONE;
            p.laidOn = NONE;
            p.wrong = 0;
            p.struck = false;
        }
        w.lays = 0;
        note(2, w.votes.size(), baskets);
        w.votes.add(new int[] {baskets, 0, 0, 0, 0, NONE, 0});
        return w.votes.size() - 1;
    }

    int give(int o, int c, int b) {
        if (!person(o) || !person(c) || o == c || !(basketArgument(b) || b == NONE)) return INVALID;
        if (of(o).sea || of(c).sea) return AT_SEA;
        if (of(o).laid() || of(o).carrier != NONE) return NOT_THERE;
        operation();
        of(o).carrier = c;
        of(o).bound = b;
        return person(c, 4);
    }

    int takeBack(int o) {
        if (!person(o)) return INVALID;
        boolean carried = !of(o).laid() && of(o).carrier != NONE;
        if (of(o).sea || (carried && of(of(o).carrier).sea)) return AT_SEA;
        if (!carried) return NOT_THERE;
        operation();
        int carrier = of(o).carrier;
        of(o).carrier = NONE;
        of(o).bound = NONE;
        return carrier;
    }

    int why(int p, int o, int b) {
        if (!person(p) || !person(o) || !basketArgument(b)) return INVALID;
        if (of(p).sea) return AT_SEA;
        int holder = of(o).carrier == NONE ? o : of(o).carrier;
        if (of(o).laid() || holder != p) return NOT_THERE;
        if (!open() || b >= vote()[BASKETS]) return TOO_LATE;
        if (p == o) return 0;
        if (!of(o).sea) return 1;
        if (laidForOthers(p) >= numbers[7]) return 2;
        return of(o).bound != NONE && of(o).bound != b ? 3 : 0;
    }

    int lay(int p, int o, int b) {
        int why = why(p, o, b);
        if (why < 0) return why;
        operation();
        of(o).basket = b;
        of(o).laidOn = w.day;
        of(o).wrong = why;
        w.lays++;
        note(3, o, b);
        return basket(b);
    }

    int contest(int p, int o) {
        if (!person(p) || !person(o)) return INVALID;
        if (of(p).sea) return AT_SEA;
        if (!of(o).counts() || of(p).faults == 3) return NOT_THERE;
        if (!open() && !appealable()) return TOO_LATE;
        operation();
        if (of(o).wrong == 0) {
            note(5, p, ++of(p).faults);
        } else {
            strike(o);
            if (!open()) turn();
        }
        return of(o).wrong;
    }

    int close() {
        if (!open()) return TOO_LATE;
        operation();
        int[] v = vote();
        v[DAY] = w.day;
        v[NEED] = needNow();
        v[TURNOUT] = turnout();
        v[RESULT] = result(lies(), v[NEED]);
        v[CLOSED] = 1;
        note(6, w.votes.size() - 1, v[RESULT] == NONE ? -1 : v[RESULT]);
        return v[TURNOUT];
    }

    int recount() {
        if (!appealable() || vote()[RECOUNTS] >= numbers[9]) return TOO_LATE;
        operation();
        vote()[RECOUNTS]++;
        int struck = 0;
        for (int o = 0; o < n(); o++) {
            if (!of(o).counts() || of(o).wrong == 0) continue;
            strike(o);
            struck++;
        }
        turn();
        return struck;
    }

    int pass(int days) {
        if (days < 1 || days > 99) return INVALID;
        operation();
        int home = 0;
        for (int last = w.day + days; w.day < last; ) {
            w.day++;
            for (Person p : w.people) p.seaDays += p.sea ? 1 : 0;
            for (int b = 0; b < boats; b++) home += w.back[b] == w.day ? comesHome(b) : 0;
        }
        return home;
    }

    int keep(int slot) {
        if (slot != 0 && slot != 1) return INVALID;
        slots[slot] = w.copy();
        return w.day;
    }

    int restore(int slot) {
        if (slot != 0 && slot != 1) return INVALID;
        if (slots[slot] == null) return NONE;
        operation();
        w = slots[slot].copy();
        return w.day;
    }

    int undo() {
        if (undo.isEmpty()) return INVALID;
        w = undo.pop();
        return undo.size();
    }

    // ---- what there is

    int value(int what) {
        int[] v = vote();
        switch (what) {
            case 0: return w.day;
            case 1: return w.day / numbers[0] % 4;
            case 2: return n();
            case 3: return boats;
            case 4: return out(0);
            case 5: return count(p -> of(p).sea);
            case 6: return needOfVote();
            case 7: return turnout();
            case 8: return v == null ? 0 : open() ? 1 : appealable() ? 2 : 3;
            case 9: return v == null ? 0 : v[BASKETS];
            case 10: return v == null ? NONE : v[RESULT];
            case 11: return count(p -> of(p).struck);
            case 12: return v == null ? 0 : v[RECOUNTS];
            case 13: return w.votes.size();
            case 14: return Math.min(w.log.size(), 30);
            case 15: return count(p -> !of(p).sea);
            case 16: return Integer.bitCount(wrongOnes());
            default: return INVALID;
        }
    }

    int person(int p, int what) {
        if (!person(p)) return INVALID;
        switch (what) {
            case 0: return of(p).boat;
            case 1: return of(p).sea ? 1 : 0;
            case 2: return of(p).sea ? w.back[of(p).boat] : w.day;
            case 3: return of(p).faults;
            case 4: return Integer.bitCount(carries(p));
            case 5: return laidForOthers(p);
            case 6: return of(p).seaDays;
            default: return INVALID;
        }
    }

    int boat(int b, int what) {
        if (!boat(b)) return INVALID;
        switch (what) {
            case 0: return w.back[b] == 0 ? 0 : 1;
            case 1: return w.back[b] == 0 ? w.day : w.back[b];
            case 2: return count(p -> of(p).boat == b && of(p).sea);
            case 3: return count(p -> of(p).boat == b);
            case 4: return w.sailed[b];
            default: return INVALID;
        }
    }

    int stick(int o, int what) {
        if (!person(o)) return INVALID;
        Person p = of(o);
        switch (what) {
            case 0: return p.struck ? 3 : p.laid() ? 2 : p.carrier != NONE ? 1 : 0;
            case 1: return p.carrier;
            case 2: return p.bound;
            case 3: return p.basket;
            case 4: return p.laidOn;
            case 5: return p.wrong;
            default: return INVALID;
        }
    }

    int basket(int b) {
        return basketArgument(b) ? Integer.bitCount(owners(b)) : INVALID;
    }

    int past(int vote, int what) {
        if (vote < 0 || what < 0 || what > 3) return INVALID;
        int closed = w.votes.size() - (open() ? 1 : 0);
        if (vote >= closed || vote < closed - 8) return NONE;
        return w.votes.get(vote)[new int[] {DAY, TURNOUT, NEED, RESULT}[what]];
    }

    int log(int i, int what) {
        if (i < 0 || what < 0 || what > 3) return INVALID;
        int first = Math.max(w.log.size() - 30, 0);
        return i < w.log.size() - first ? w.log.get(first + i)[what] : NONE;
    }

    int owners(int b) {
        return basketArgument(b) ? mask(p -> of(p).counts() && of(p).basket == b) : INVALID;
    }

    int carries(int c) {
        return person(c) ? mask(p -> !of(p).laid() && of(p).carrier == c) : INVALID;
    }

    int wrongOnes() {
        return mask(p -> of(p).counts() && of(p).wrong > 0);
    }

    // ---- what would be

    int needIfHome(int b) {
        if (!boat(b)) return INVALID;
        return w.back[b] == 0 ? NOT_THERE : need(w.day, out(0) - 1);
    }

    int leads() {
        return open() ? result(lies(), needNow()) : TOO_LATE;
    }

    int truly() {
        if (vote() == null) return TOO_LATE;
        List<Integer> lies = w.people.stream().map(p -> p.counts() && p.wrong == 0 ? p.basket : NONE)
            .collect(Collectors.toList());
        return result(lies, needOfVote());
    }

    boolean canWin(int b) {
        if (!open() || b < 0 || b >= vote()[BASKETS]) return false;
        List<Integer> lies = lies();
        for (int o = 0; o < n(); o++) {
            int holder = of(o).carrier == NONE ? o : of(o).carrier;
            if (!of(o).laid() && !of(holder).sea) lies.set(o, b);
        }
        return result(lies, needNow()) == b;
    }

    int decisive() {
        if (vote() == null) return TOO_LATE;
        int now = result(lies(), needOfVote());
        return now == NONE ? 0 : count(o -> {
            List<Integer> lies = lies();
            return lies.set(o, NONE) != NONE && result(lies, needOfVote()) != now;
        });
    }

    int lacks() {
        return open() ? Math.max(0, needNow() - turnout()) : TOO_LATE;
    }

    int needIn(int days) {
        return days < 0 || days > 999 ? INVALID : need(w.day + days, out(w.day + days));
    }

    int bestDay(int days) {
        if (days < 1 || days > 99) return INVALID;
        List<Integer> surplus = IntStream.rangeClosed(0, days).map(d -> count(
            p -> !of(p).sea || w.back[of(p).boat] <= w.day + d) - needIn(d)).boxed()
            .collect(Collectors.toList());
        return surplus.indexOf(Collections.max(surplus));
    }

    int mightiest() {
        int best = NONE;
        int most = 0;
        for (int p = n() - 1; p >= 0; p--) {
            int self = p;
            int might = Math.min(numbers[7],
                count(o -> !of(o).laid() && of(o).carrier == self && of(o).sea));
            if (open()) might -= laidForOthers(p);
            if (of(p).sea || might <= 0 || might < most) continue;
            most = might;
            best = p;
        }
        return best;
    }

    boolean agrees() {
        return turnout() + count(p -> of(p).struck) == w.lays;
    }

    float share(int b) {
        if (!basketArgument(b)) return -1;
        return turnout() == 0 ? 0 : (float) basket(b) / (float) turnout();
    }

    double seafaring() {
        int days = w.people.stream().mapToInt(p -> p.seaDays).sum();
        return w.day == 0 ? 0 : (double) days / (double) (w.day * n());
    }

    // ---- texts

    String view(List<String> names) {
        StringBuilder text = new StringBuilder();
        for (int o = 0; o < n(); o++) {
            Person p = of(o);
            text.append(names.get(o));
            text.append(new String[] {" hand", " with", " laid", " struck"}[stick(o, 0)]);
            if (p.carrier != NONE) text.append(' ').append(names.get(p.carrier));
            if (p.laid()) text.append(' ').append(p.basket);
            text.append(p.sea ? " *\n" : "\n");
        }
        return text.toString();
    }

    String story() {
        String[] kinds = {"sails", "home", "opens", "laid", "struck", "fault", "closed", "turns"};
        StringBuilder text = new StringBuilder();
        for (int[] e : w.log.subList(Math.max(w.log.size() - 30, 0), w.log.size())) {
            text.append(e[0] + " " + kinds[e[1]] + " " + e[2] + " " + e[3] + "\n");
        }
        return text.toString();
    }

    String setup(List<String> boatNames, List<String> names) {
        StringBuilder text = new StringBuilder(Villages.numbers(numbers[0], numbers[1] + " "
            + numbers[2] + " " + numbers[3] + " " + numbers[4], numbers[5], numbers[6], numbers[7],
            numbers[8], numbers[9]));
        for (String name : boatNames) text.append("boat " + name + ";");
        for (int p = 0; p < n(); p++) {
            text.append("person " + names.get(p));
            if (of(p).boat != NONE) text.append(" of " + boatNames.get(of(p).boat));
            text.append(';');
        }
        return text.toString();
    }
}
