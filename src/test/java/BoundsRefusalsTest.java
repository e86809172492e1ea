import java.util.function.Supplier;
import java.util.function.ToIntFunction;

/**
 * Every refusal that a call names in DOC.md, alone and where two or three of them hold at once, and
 * that the refused call changes nothing. Each is held against a twin (see Twins).
 *
 * <p>The village is Villages.PORT: ann (0) and bob (1) of the boat ami (0), cid (2) of the boat bee
 * (1), dan (3) and eve (4) of none; APPEAL 3, RECOUNTS 1.
 */
public final class BoundsRefusalsTest {
    private static final Checks CHECKS = new Checks("BoundsRefusalsTest");
    private static final int MIN = Integer.MIN_VALUE;
    private static final int MAX = Integer.MAX_VALUE;

    private BoundsRefusalsTest() {
    }

    public static void main(String[] args) {
        sail();
        delay();
        comeHome();
        join();
        open();
        give();
        giveTwoAtOnce();
        takeBack();
        layInvalid();
        lay();
        layTwoAtOnce();
        contestInvalid();
        contest();
        contestTwoAtOnce();
        close();
        recount();
        pass();
        slots();
        undo();
        questions();
        validPeople();
        validBoatsAndBaskets();
        CHECKS.end();
    }

    // ---- villages

    /**
     * An error position, a tape, a kept slot, a vote that is closed, one that is open, and undo steps.
     * ann's stick is with dan (bound to 1), bob's with eve, cid's in the basket 0, the others at hand.
     */
    private static StickVotes busy() {
        StickVotes x = Villages.port();
        Villages.put(x, "season x");
        x.load();
        x.append(1, 2, 3, 4, 5);
        x.open(3);
        x.lay(4, 4, 2);
        x.contest(3, 4);
        x.close();
        x.keep(0);
        x.pass(1);
        x.give(0, 3, 1);
        x.give(1, 4, -2);
        x.open(2);
        x.lay(2, 2, 0);
        return x;
    }

    /** The same without a vote so far. */
    private static StickVotes early() {
        StickVotes x = Villages.port();
        x.keep(1);
        x.give(0, 3, 1);
        x.give(1, 4, -2);
        x.pass(1);
        return x;
    }

    /** The same with more done to it. */
    private static Supplier<StickVotes> then(Supplier<StickVotes> village, ToIntFunction<StickVotes> more) {
        return () -> {
            StickVotes x = village.get();
            if (more.applyAsInt(x) < 0) throw new IllegalStateException("a village that cannot be made");
            return x;
        };
    }

    /** ann and bob at sea. */
    private static Supplier<StickVotes> atSea(Supplier<StickVotes> village) {
        return then(village, x -> x.sail(0, 50));
    }

    private static Supplier<StickVotes> closed(Supplier<StickVotes> village) {
        return then(village, StickVotes::close);
    }

    /** Closed, and nothing can be contested any more. */
    private static Supplier<StickVotes> late(Supplier<StickVotes> village) {
        return then(closed(village), x -> x.pass(4));
    }

    /** dan lays ann's stick, which is wrong, as she is ashore. */
    private static StickVotes wrong() {
        StickVotes x = busy();
        x.lay(3, 0, 1);
        return x;
    }

    private static StickVotes struck() {
        StickVotes x = wrong();
        x.contest(4, 0);
        return x;
    }

    /** eve has 3 faults. */
    private static StickVotes faulty() {
        StickVotes x = wrong();
        for (int i = 0; i < 3; i++) x.contest(4, 2);
        return x;
    }

    // ---- what is refused

    private static void refused(String call, Supplier<StickVotes> village, ToIntFunction<StickVotes> refusedCall, int due) {
        Twins.refused(CHECKS, call, village, refusedCall, due);
    }

    private static void sail() {
        Supplier<StickVotes> home = BoundsRefusalsTest::busy;
        Supplier<StickVotes> out = atSea(home);
        CHECKS.holds("Promise 6", "INVALID for an invalid argument; NOT_THERE if it is out.", () -> {
            int[] boats = {-1, 2, -2, MIN, MAX};
            for (int boat : boats) refused("sail(" + boat + ", 5)", home, x -> x.sail(boat, 5), -1);
            int[] days = {0, 100, -1, MIN, MAX};
            for (int d : days) refused("sail(0, " + d + ")", home, x -> x.sail(0, d), -1);
            refused("sail(0, 1) when it is out", out, x -> x.sail(0, 1), -4);
            refused("sail(0, 99) when it is out", out, x -> x.sail(0, 99), -4);
        });
        CHECKS.holds("Section 8", "this is checked before any other special result.", () -> {
            refused("sail(0, 0) when it is out", out, x -> x.sail(0, 0), -1);
            refused("sail(0, 100) when it is out", out, x -> x.sail(0, 100), -1);
        });
    }

    private static void delay() {
        Supplier<StickVotes> home = BoundsRefusalsTest::busy;
        Supplier<StickVotes> out = atSea(home);
        CHECKS.holds("Promise 7", "INVALID for an invalid argument; NOT_THERE if it is at home.", () -> {
            int[] boats = {-1, 2, -2, MIN, MAX};
            for (int boat : boats) refused("delay(" + boat + ", 5)", out, x -> x.delay(boat, 5), -1);
            int[] days = {0, 100, -1, MIN, MAX};
            for (int d : days) refused("delay(0, " + d + ")", out, x -> x.delay(0, d), -1);
            refused("delay(1, 1) at home, another is out", out, x -> x.delay(1, 1), -4);
            refused("delay(0, 99) at home", home, x -> x.delay(0, 99), -4);
        });
        CHECKS.holds("Section 8", "this is checked before any other special result.", () -> {
            refused("delay(0, 0) at home", home, x -> x.delay(0, 0), -1);
            refused("delay(0, 100) at home", home, x -> x.delay(0, 100), -1);
        });
    }

    private static void comeHome() {
        Supplier<StickVotes> home = BoundsRefusalsTest::busy;
        CHECKS.holds("Promise 8", "INVALID for an invalid argument; NOT_THERE if it is at home.", () -> {
            int[] boats = {-1, 2, -2, MIN, MAX};
            for (int boat : boats) refused("comeHome(" + boat + ")", atSea(home), x -> x.comeHome(boat), -1);
            refused("comeHome(0) at home", home, x -> x.comeHome(0), -4);
            refused("comeHome(1) at home, another is out", atSea(home), x -> x.comeHome(1), -4);
        });
    }

    private static void join() {
        Supplier<StickVotes> home = BoundsRefusalsTest::busy;
        Supplier<StickVotes> sea = atSea(home);
        CHECKS.holds("Promise 9", "INVALID for an invalid argument; AT_SEA if the person is at sea; NOT_FOUND if it is so already.", () -> {
            int[] people = {-1, 5, -2, MIN, MAX};
            for (int p : people) refused("join(" + p + ", 0)", home, x -> x.join(p, 0), -1);
            int[] boats = {-1, 2, -3, MIN, MAX};
            for (int boat : boats) refused("join(0, " + boat + ")", home, x -> x.join(0, boat), -1);
            refused("join(0, 1) at sea", sea, x -> x.join(0, 1), -3);
            refused("join(0, -2) at sea", sea, x -> x.join(0, -2), -3);
            refused("join(0, 0), so already", home, x -> x.join(0, 0), -2);
            refused("join(4, -2), so already", home, x -> x.join(4, -2), -2);
        });
        CHECKS.holds("Section 8", "this is checked before any other special result.", () -> {
            refused("join(0, 2) at sea", sea, x -> x.join(0, 2), -1);
            refused("join(0, -1) at sea", sea, x -> x.join(0, -1), -1);
            refused("join(5, -2)", sea, x -> x.join(5, -2), -1);
        });
        CHECKS.holds("Promise 9", "AT_SEA if the person is at sea; NOT_FOUND if it is so already.",
            () -> refused("join(0, 0) at sea, so already", sea, x -> x.join(0, 0), -3));
    }

    private static void open() {
        Supplier<StickVotes> open = BoundsRefusalsTest::busy;
        CHECKS.holds("Promise 10", "INVALID for an invalid argument; TOO_LATE if one is open.", () -> {
            int[] baskets = {1, 5, 0, -1, MIN, MAX};
            for (int b : baskets) refused("open(" + b + ")", closed(open), x -> x.open(b), -1);
            for (int b = 2; b <= 4; b++) {
                int rights = b;
                refused("open(" + b + ") when one is open", open, x -> x.open(rights), -5);
            }
        });
        CHECKS.holds("Section 8", "this is checked before any other special result.", () -> {
            refused("open(1) when one is open", open, x -> x.open(1), -1);
            refused("open(5) when one is open", open, x -> x.open(5), -1);
        });
    }

    private static void give() {
        Supplier<StickVotes> home = BoundsRefusalsTest::busy;
        Supplier<StickVotes> sea = atSea(home);
        CHECKS.holds("Promise 11", "INVALID for an invalid argument or the same person", () -> {
            int[] people = {-1, 5, -2, MIN, MAX};
            for (int p : people) {
                refused("give(" + p + ", 4, 0)", home, x -> x.give(p, 4, 0), -1);
                refused("give(4, " + p + ", 0)", home, x -> x.give(4, p, 0), -1);
            }
            int[] baskets = {-1, 4, -3, MIN, MAX};
            for (int b : baskets) refused("give(4, 3, " + b + ")", home, x -> x.give(4, 3, b), -1);
            refused("give(4, 4, 0)", home, x -> x.give(4, 4, 0), -1);
            refused("give(3, 3, -2)", home, x -> x.give(3, 3, -2), -1);
        });
        CHECKS.holds("Promise 11", "AT_SEA if one of both is at sea", () -> {
            Supplier<StickVotes> back = atSea(then(home, x -> x.takeBack(0)));
            refused("give(0, 4, 0), the owner at sea", back, x -> x.give(0, 4, 0), -3);
            refused("give(4, 0, 0), the carrier at sea", back, x -> x.give(4, 0, 0), -3);
            refused("give(0, 1, 0), both at sea", back, x -> x.give(0, 1, 0), -3);
        });
        CHECKS.holds("Promise 11", "NOT_THERE if the stick is not at hand.", () -> {
            refused("give(0, 4, 0), carried", home, x -> x.give(0, 4, 0), -4);
            refused("give(0, 3, 1), carried by the same one", home, x -> x.give(0, 3, 1), -4);
            refused("give(2, 4, 0), laid", home, x -> x.give(2, 4, 0), -4);
            refused("give(0, 4, 0), laid by its carrier", BoundsRefusalsTest::wrong, x -> x.give(0, 4, 0), -4);
            refused("give(0, 4, 0), struck", BoundsRefusalsTest::struck, x -> x.give(0, 4, 0), -4);
        });
        CHECKS.holds("Section 8", "this is checked before any other special result.", () -> {
            refused("give(0, 4, 4), the owner at sea", sea, x -> x.give(0, 4, 4), -1);
            refused("give(4, 0, -1), the carrier at sea", sea, x -> x.give(4, 0, -1), -1);
            refused("give(0, 0, 0), the same one at sea", sea, x -> x.give(0, 0, 0), -1);
            refused("give(0, 5, 0), the owner at sea", sea, x -> x.give(0, 5, 0), -1);
            refused("give(0, 4, 4), carried", home, x -> x.give(0, 4, 4), -1);
            refused("give(0, 0, 0), carried", home, x -> x.give(0, 0, 0), -1);
            refused("give(2, 5, 0), laid", home, x -> x.give(2, 5, 0), -1);
        });
    }

    private static void giveTwoAtOnce() {
        CHECKS.holds("Section 8", "Other refusals are AT_SEA, NOT_THERE, TOO_LATE, in this order.", () -> {
            Supplier<StickVotes> sea = atSea(BoundsRefusalsTest::busy);
            refused("give(0, 4, 0), carried, the owner at sea", sea, x -> x.give(0, 4, 0), -3);
            refused("give(2, 0, 0), laid, the carrier at sea", sea, x -> x.give(2, 0, 0), -3);
            refused("give(0, 1, 0), carried, both at sea", sea, x -> x.give(0, 1, 0), -3);
            refused("give(0, 4, 0), struck, the owner at sea", atSea(BoundsRefusalsTest::struck), x -> x.give(0, 4, 0), -3);
        });
    }

    private static void takeBack() {
        Supplier<StickVotes> home = BoundsRefusalsTest::busy;
        Supplier<StickVotes> carrierAtSea = atSea(then(home, x -> x.give(3, 1, -2)));
        CHECKS.holds("Promise 12", "INVALID for an invalid argument; AT_SEA if the owner or the carrier is at sea; NOT_THERE if nobody carries it (as it is at hand or laid).", () -> {
            int[] people = {-1, 5, -2, MIN, MAX};
            for (int p : people) refused("takeBack(" + p + ")", home, x -> x.takeBack(p), -1);
            refused("takeBack(0), the owner at sea", atSea(home), x -> x.takeBack(0), -3);
            refused("takeBack(3), the carrier at sea", carrierAtSea, x -> x.takeBack(3), -3);
            refused("takeBack(4), at hand", home, x -> x.takeBack(4), -4);
            refused("takeBack(2), laid", home, x -> x.takeBack(2), -4);
            refused("takeBack(0), laid by its carrier", BoundsRefusalsTest::wrong, x -> x.takeBack(0), -4);
            refused("takeBack(0), struck", BoundsRefusalsTest::struck, x -> x.takeBack(0), -4);
            refused("takeBack(0), in a closed vote", closed(BoundsRefusalsTest::wrong), x -> x.takeBack(0), -4);
        });
        CHECKS.holds("Promise 12", "AT_SEA if the owner or the carrier is at sea", () -> {
            Supplier<StickVotes> both = atSea(then(then(home, x -> x.takeBack(0)), x -> x.give(0, 1, -2)));
            refused("takeBack(0), both at sea", both, x -> x.takeBack(0), -3);
        });
        CHECKS.holds("Section 8", "Other refusals are AT_SEA, NOT_THERE, TOO_LATE, in this order.", () -> {
            Supplier<StickVotes> hand = then(home, x -> x.takeBack(0));
            refused("takeBack(0), at hand, at sea", atSea(hand), x -> x.takeBack(0), -3);
            refused("takeBack(2), laid, at sea", then(home, x -> x.sail(1, 9)), x -> x.takeBack(2), -3);
            refused("takeBack(0), laid by its carrier, at sea", atSea(BoundsRefusalsTest::wrong), x -> x.takeBack(0), -3);
            refused("takeBack(0), struck, at sea", atSea(BoundsRefusalsTest::struck), x -> x.takeBack(0), -3);
        });
    }

    private static void layInvalid() {
        Supplier<StickVotes> open = BoundsRefusalsTest::busy;
        CHECKS.holds("Promise 13", "INVALID for an invalid argument", () -> {
            int[] people = {-1, 5, -2, MIN, MAX};
            for (int p : people) {
                refused("lay(" + p + ", 4, 0)", open, x -> x.lay(p, 4, 0), -1);
                refused("lay(4, " + p + ", 0)", open, x -> x.lay(4, p, 0), -1);
            }
            int[] baskets = {-1, 4, -2, MIN, MAX};
            for (int b : baskets) refused("lay(4, 4, " + b + ")", open, x -> x.lay(4, 4, b), -1);
        });
        CHECKS.holds("Section 8", "this is checked before any other special result.", () -> {
            refused("lay(0, 0, 4) at sea", atSea(open), x -> x.lay(0, 0, 4), -1);
            refused("lay(0, 5, 0) at sea", atSea(open), x -> x.lay(0, 5, 0), -1);
            refused("lay(4, 0, 4), not there", open, x -> x.lay(4, 0, 4), -1);
            refused("lay(4, 4, 4) without a vote", BoundsRefusalsTest::early, x -> x.lay(4, 4, 4), -1);
            refused("lay(4, 4, -1), closed", closed(open), x -> x.lay(4, 4, -1), -1);
            refused("lay(0, 0, 4), all at once", atSea(late(open)), x -> x.lay(0, 0, 4), -1);
        });
    }

    private static void lay() {
        Supplier<StickVotes> open = BoundsRefusalsTest::busy;
        CHECKS.holds("Promise 13", "AT_SEA if the person is at sea; NOT_THERE if the person does not have it", () -> {
            refused("lay(0, 0, 0), the own one at hand, at sea", atSea(then(open, x -> x.takeBack(0))), x -> x.lay(0, 0, 0), -3);
            refused("lay(1, 3, 0), a carried one, at sea", atSea(then(open, x -> x.give(3, 1, -2))), x -> x.lay(1, 3, 0), -3);
            refused("lay(0, 0, 1), the own one, given away", open, x -> x.lay(0, 0, 1), -4);
            refused("lay(4, 3, 1), another's at hand", open, x -> x.lay(4, 3, 1), -4);
            refused("lay(4, 0, 1), carried by another", open, x -> x.lay(4, 0, 1), -4);
            refused("lay(2, 2, 0), laid", open, x -> x.lay(2, 2, 0), -4);
            refused("lay(3, 0, 1), laid by this carrier", BoundsRefusalsTest::wrong, x -> x.lay(3, 0, 1), -4);
            refused("lay(0, 0, 1), laid by the carrier", BoundsRefusalsTest::wrong, x -> x.lay(0, 0, 1), -4);
            refused("lay(3, 0, 1), struck", BoundsRefusalsTest::struck, x -> x.lay(3, 0, 1), -4);
        });
        CHECKS.holds("Promise 13", "TOO_LATE if no vote is open, or it has no such basket.", () -> {
            refused("lay(4, 4, 0) without a vote", BoundsRefusalsTest::early, x -> x.lay(4, 4, 0), -5);
            refused("lay(3, 0, 1) without a vote", BoundsRefusalsTest::early, x -> x.lay(3, 0, 1), -5);
            refused("lay(4, 4, 0), closed", closed(open), x -> x.lay(4, 4, 0), -5);
            refused("lay(4, 4, 0), closed for good", late(open), x -> x.lay(4, 4, 0), -5);
            refused("lay(4, 4, 2) of 2", open, x -> x.lay(4, 4, 2), -5);
            refused("lay(4, 4, 3) of 2", open, x -> x.lay(4, 4, 3), -5);
            refused("lay(3, 0, 3) of 3", then(closed(open), x -> x.open(3)), x -> x.lay(3, 0, 3), -5);
        });
    }

    private static void layTwoAtOnce() {
        Supplier<StickVotes> open = BoundsRefusalsTest::busy;
        Supplier<StickVotes> early = BoundsRefusalsTest::early;
        String words = "Other refusals are AT_SEA, NOT_THERE, TOO_LATE, in this order.";
        CHECKS.holds("Section 8", words, () -> {
            refused("lay(0, 0, 0), AT_SEA and NOT_THERE", atSea(open), x -> x.lay(0, 0, 0), -3);
            refused("lay(0, 2, 0), AT_SEA and NOT_THERE, laid", atSea(open), x -> x.lay(0, 2, 0), -3);
            refused("lay(0, 0, 0), AT_SEA and TOO_LATE, no vote", atSea(then(early, x -> x.takeBack(0))), x -> x.lay(0, 0, 0), -3);
            refused("lay(0, 0, 0), AT_SEA and TOO_LATE, closed", atSea(closed(then(open, x -> x.takeBack(0)))), x -> x.lay(0, 0, 0), -3);
            refused("lay(0, 0, 2), AT_SEA and TOO_LATE, no such basket", atSea(then(open, x -> x.takeBack(0))), x -> x.lay(0, 0, 2), -3);
        });
        CHECKS.holds("Section 8", words, () -> {
            refused("lay(0, 0, 0), NOT_THERE and TOO_LATE, no vote", early, x -> x.lay(0, 0, 0), -4);
            refused("lay(4, 3, 0), NOT_THERE and TOO_LATE, no vote", early, x -> x.lay(4, 3, 0), -4);
            refused("lay(0, 0, 0), NOT_THERE and TOO_LATE, closed", closed(open), x -> x.lay(0, 0, 0), -4);
            refused("lay(2, 2, 0), NOT_THERE and TOO_LATE, laid and closed", late(open), x -> x.lay(2, 2, 0), -4);
            refused("lay(0, 0, 2), NOT_THERE and TOO_LATE, no such basket", open, x -> x.lay(0, 0, 2), -4);
            refused("lay(2, 2, 3), NOT_THERE and TOO_LATE, no such basket", open, x -> x.lay(2, 2, 3), -4);
        });
        CHECKS.holds("Section 8", words, () -> {
            refused("lay(0, 0, 0), all three, no vote", atSea(early), x -> x.lay(0, 0, 0), -3);
            refused("lay(0, 0, 0), all three, closed", atSea(late(open)), x -> x.lay(0, 0, 0), -3);
            refused("lay(0, 2, 2), all three, no such basket", atSea(open), x -> x.lay(0, 2, 2), -3);
        });
    }

    private static void contestInvalid() {
        Supplier<StickVotes> open = BoundsRefusalsTest::busy;
        CHECKS.holds("Promise 14", "INVALID for an invalid argument", () -> {
            int[] people = {-1, 5, -2, MIN, MAX};
            for (int p : people) {
                refused("contest(" + p + ", 2)", open, x -> x.contest(p, 2), -1);
                refused("contest(4, " + p + ")", open, x -> x.contest(4, p), -1);
            }
        });
        CHECKS.holds("Section 8", "this is checked before any other special result.", () -> {
            refused("contest(0, 5) at sea", atSea(open), x -> x.contest(0, 5), -1);
            refused("contest(0, -1) at sea", atSea(open), x -> x.contest(0, -1), -1);
            refused("contest(5, 3), not laid", open, x -> x.contest(5, 3), -1);
            refused("contest(4, 5) with 3 faults", BoundsRefusalsTest::faulty, x -> x.contest(4, 5), -1);
            refused("contest(5, 2), late", late(open), x -> x.contest(5, 2), -1);
            refused("contest(4, 5) without a vote", BoundsRefusalsTest::early, x -> x.contest(4, 5), -1);
        });
    }

    private static void contest() {
        Supplier<StickVotes> open = BoundsRefusalsTest::busy;
        CHECKS.holds("Promise 14", "AT_SEA if the person is at sea", () -> {
            refused("contest(0, 2) at sea, a right one", atSea(open), x -> x.contest(0, 2), -3);
            refused("contest(0, 0) at sea, a wrong one", atSea(BoundsRefusalsTest::wrong), x -> x.contest(0, 0), -3);
        });
        CHECKS.holds("Promise 14", "NOT_THERE if the stick is not laid, or struck, or the person has 3 faults", () -> {
            refused("contest(4, 3), at hand", open, x -> x.contest(4, 3), -4);
            refused("contest(4, 0), carried", open, x -> x.contest(4, 0), -4);
            refused("contest(4, 0), struck", BoundsRefusalsTest::struck, x -> x.contest(4, 0), -4);
            refused("contest(4, 2) with 3 faults, a right one", BoundsRefusalsTest::faulty, x -> x.contest(4, 2), -4);
            refused("contest(4, 0) with 3 faults, a wrong one", BoundsRefusalsTest::faulty, x -> x.contest(4, 0), -4);
            refused("contest(4, 0), struck in a closed vote", closed(BoundsRefusalsTest::struck), x -> x.contest(4, 0), -4);
        });
        CHECKS.holds("Promise 14", "TOO_LATE if that can be done no more.", () -> {
            refused("contest(4, 2), late, a right one", late(open), x -> x.contest(4, 2), -5);
            refused("contest(4, 0), late, a wrong one", late(BoundsRefusalsTest::wrong), x -> x.contest(4, 0), -5);
        });
    }

    private static void contestTwoAtOnce() {
        Supplier<StickVotes> open = BoundsRefusalsTest::busy;
        // bob has 3 faults, and sails.
        Supplier<StickVotes> bob = atSea(() -> {
            StickVotes x = wrong();
            for (int i = 0; i < 3; i++) x.contest(1, 2);
            return x;
        });
        String words = "Other refusals are AT_SEA, NOT_THERE, TOO_LATE, in this order.";
        CHECKS.holds("Section 8", words, () -> {
            refused("contest(0, 3), AT_SEA and NOT_THERE, at hand", atSea(open), x -> x.contest(0, 3), -3);
            refused("contest(0, 0), AT_SEA and NOT_THERE, struck", atSea(BoundsRefusalsTest::struck), x -> x.contest(0, 0), -3);
            refused("contest(1, 2), AT_SEA and NOT_THERE, 3 faults", bob, x -> x.contest(1, 2), -3);
            refused("contest(0, 2), AT_SEA and TOO_LATE", atSea(late(open)), x -> x.contest(0, 2), -3);
        });
        CHECKS.holds("Section 8", words, () -> {
            refused("contest(4, 3), NOT_THERE and TOO_LATE, at hand", late(open), x -> x.contest(4, 3), -4);
            refused("contest(4, 0), NOT_THERE and TOO_LATE, carried", late(open), x -> x.contest(4, 0), -4);
            refused("contest(4, 0), NOT_THERE and TOO_LATE, struck", late(BoundsRefusalsTest::struck), x -> x.contest(4, 0), -4);
            refused("contest(4, 2), NOT_THERE and TOO_LATE, 3 faults", late(BoundsRefusalsTest::faulty), x -> x.contest(4, 2), -4);
            refused("contest(4, 2), NOT_THERE and TOO_LATE, no vote", BoundsRefusalsTest::early, x -> x.contest(4, 2), -4);
        });
        CHECKS.holds("Section 8", words, () -> {
            refused("contest(0, 3), all three", atSea(late(open)), x -> x.contest(0, 3), -3);
            refused("contest(1, 2), all three, 3 faults", late(bob), x -> x.contest(1, 2), -3);
            refused("contest(0, 2), all three, no vote", atSea(BoundsRefusalsTest::early), x -> x.contest(0, 2), -3);
        });
    }

    private static void close() {
        CHECKS.holds("Promise 15", "TOO_LATE if none is open.", () -> {
            refused("close() without a vote", BoundsRefusalsTest::early, StickVotes::close, -5);
            refused("close() of a closed vote", closed(BoundsRefusalsTest::busy), StickVotes::close, -5);
            refused("close() of one that is closed for good", late(BoundsRefusalsTest::busy), StickVotes::close, -5);
        });
    }

    private static void recount() {
        CHECKS.holds("Promise 16", "TOO_LATE if the latest vote is open, there is none, or it can be recounted no more.", () -> {
            refused("recount() of an open vote", BoundsRefusalsTest::wrong, StickVotes::recount, -5);
            refused("recount() without a vote", BoundsRefusalsTest::early, StickVotes::recount, -5);
            refused("recount() behind APPEAL", late(BoundsRefusalsTest::wrong), StickVotes::recount, -5);
            Supplier<StickVotes> recounted = then(closed(BoundsRefusalsTest::wrong), StickVotes::recount);
            refused("recount() beyond RECOUNTS", recounted, StickVotes::recount, -5);
            refused("recount() beyond both", then(recounted, x -> x.pass(4)), StickVotes::recount, -5);
        });
    }

    private static void pass() {
        CHECKS.holds("Promise 17", "INVALID for an invalid argument.", () -> {
            int[] days = {0, 100, -1, 101, MIN, MAX};
            for (int d : days) refused("pass(" + d + ")", atSea(BoundsRefusalsTest::busy), x -> x.pass(d), -1);
        });
    }

    private static void slots() {
        int[] slots = {-1, 2, -2, 3, MIN, MAX};
        CHECKS.holds("Promise 18", "INVALID for an invalid argument.", () -> {
            for (int slot : slots) refused("keep(" + slot + ")", BoundsRefusalsTest::busy, x -> x.keep(slot), -1);
        });
        CHECKS.holds("Promise 19", "INVALID for an invalid argument; NOT_FOUND if the slot is empty.", () -> {
            for (int slot : slots) {
                refused("restore(" + slot + ")", then(BoundsRefusalsTest::busy, x -> x.keep(1)), x -> x.restore(slot), -1);
            }
            refused("restore(1), only 0 is kept", BoundsRefusalsTest::busy, x -> x.restore(1), -2);
            refused("restore(0), only 1 is kept", BoundsRefusalsTest::early, x -> x.restore(0), -2);
            refused("restore(0) of a new object", StickVotes::new, x -> x.restore(0), -2);
            refused("restore(1) of a new object", StickVotes::new, x -> x.restore(1), -2);
        });
    }

    private static void undo() {
        CHECKS.holds("Promise 20", "INVALID if there is none.", () -> {
            refused("undo() of a new object", StickVotes::new, StickVotes::undo, -1);
            Supplier<StickVotes> undone = () -> {
                StickVotes x = busy();
                for (int i = 0; i < 8; i++) x.undo();
                return x;
            };
            refused("undo() of nine operations, eight are undone", undone, StickVotes::undo, -1);
        });
    }

    private static void questions() {
        int[] odd = {-1, 7, 30, 1000, MIN, MAX};
        CHECKS.holds("Section 8", "A call with an invalid argument returns INVALID (or false, 0) and changes nothing", () -> {
            for (int i : odd) {
                refused("what there is of " + i, atSea(BoundsRefusalsTest::wrong), x -> Math.max(Math.max(Math.max(
                    x.person(i, 0), x.boat(i, 0)), Math.max(x.stick(i, 0), x.basket(i))), Math.max(Math.max(
                    x.past(0, i), x.log(0, i)), Math.max(x.owners(i), x.carries(i)))), -1);
                refused("what would be of " + i, atSea(BoundsRefusalsTest::wrong), x -> Math.max(Math.max(
                    x.why(i, 0, 0), x.why(0, 0, i)), Math.max(x.needIfHome(i), i == 7 || i == 30 ? -1 : x.bestDay(i))), -1);
                refused("canWin(" + i + ")", BoundsRefusalsTest::wrong, x -> x.canWin(i) ? 1 : 0, 0);
            }
        });
    }

    private static void validPeople() {
        for (int people = 2; people <= 20; people += 9) {
            int count = people;
            CHECKS.holds("Section 8", "A person or boat argument is valid if there is one of that number", () -> {
                int[] some = {0, count - 1, -1, count, -2, MIN, MAX};
                for (int p : some) {
                    StickVotes x = Villages.crowd(Villages.numbers(10, "0 0 0 0", 0, 1, 1, 3, 1), count, 1, i -> -2);
                    boolean isValid = p >= 0 && p < count;
                    int other = p == 0 ? 1 : 0;
                    CHECKS.is("join(" + p + ", 0) of " + count, x.join(p, 0), isValid ? 0 : -1);
                    CHECKS.is("give(" + p + ", " + other + ", 0) of " + count, x.give(p, other, 0), isValid ? 1 : -1);
                    CHECKS.is("carries(" + other + ") of " + count, x.carries(other), isValid ? 1 << p : 0);
                    CHECKS.is("takeBack(" + p + ") of " + count, x.takeBack(p), isValid ? other : -1);
                    CHECKS.is("give(" + other + ", " + p + ", 0) of " + count, x.give(other, p, 0), isValid ? 1 : -1);
                    CHECKS.is("carries(" + p + ") of " + count, x.carries(p), isValid ? 1 << other : -1);
                    x.open(2);
                    CHECKS.is("why(" + p + ", " + p + ", 0) of " + count, x.why(p, p, 0), isValid ? 0 : -1);
                    CHECKS.is("lay(" + p + ", " + p + ", 0) of " + count, x.lay(p, p, 0), isValid ? 1 : -1);
                    CHECKS.is("lay(" + p + ", " + other + ", 0) of " + count, x.lay(p, other, 0), isValid ? 2 : -1);
                    CHECKS.is("contest(" + p + ", " + p + ") of " + count, x.contest(p, p), isValid ? 0 : -1);
                    CHECKS.is("contest(" + other + ", " + p + ") of " + count, x.contest(other, p), isValid ? 0 : -1);
                    CHECKS.is("person(" + p + ", 3) of " + count, x.person(p, 3), isValid ? 1 : -1);
                    CHECKS.is("stick(" + p + ", 0) of " + count, x.stick(p, 0), isValid ? 2 : -1);
                }
            });
        }
    }

    private static void validBoatsAndBaskets() {
        for (int boats = 0; boats <= 6; boats += 3) {
            int count = boats;
            CHECKS.holds("Section 8", "A person or boat argument is valid if there is one of that number", () -> {
                int[] some = {0, count - 1, -1, count, MIN, MAX};
                for (int b : some) {
                    StickVotes x = Villages.crowd(Villages.numbers(10, "0 0 0 0", 0, 1, 1, 3, 1), 2, count, i -> -2);
                    boolean isValid = b >= 0 && b < count;
                    CHECKS.is("join(0, " + b + ") of " + count, x.join(0, b), isValid ? 0 : -1);
                    CHECKS.is("delay(" + b + ", 9) of " + count, x.delay(b, 9), isValid ? -4 : -1);
                    CHECKS.is("sail(" + b + ", 9) of " + count, x.sail(b, 9), isValid ? 1 : -1);
                    CHECKS.is("delay(" + b + ", 9) of " + count, x.delay(b, 9), isValid ? 18 : -1);
                    CHECKS.is("needIfHome(" + b + ") of " + count, x.needIfHome(b), isValid ? 1 : -1);
                    CHECKS.is("boat(" + b + ", 4) of " + count, x.boat(b, 4), isValid ? 1 : -1);
                    CHECKS.is("comeHome(" + b + ") of " + count, x.comeHome(b), isValid ? 1 : -1);
                }
            });
        }
        CHECKS.holds("Section 8", "a basket argument is 0 to 3.", () -> {
            int[] some = {0, 3, -1, 4, MIN, MAX};
            for (int b : some) {
                boolean isValid = b == 0 || b == 3;
                StickVotes x = new StickVotes();
                CHECKS.is("lay(0, 0, " + b + ") without a vote", x.lay(0, 0, b), isValid ? -5 : -1);
                CHECKS.is("why(0, 0, " + b + ") without a vote", x.why(0, 0, b), isValid ? -5 : -1);
                CHECKS.is("basket(" + b + ") without a vote", x.basket(b), isValid ? 0 : -1);
                CHECKS.is("owners(" + b + ") without a vote", x.owners(b), isValid ? 0 : -1);
                CHECKS.is("give(1, 0, " + b + ")", x.give(1, 0, b), isValid ? 1 : -1);
                x.open(4);
                CHECKS.is("why(0, 0, " + b + ")", x.why(0, 0, b), isValid ? 0 : -1);
                CHECKS.is("canWin(" + b + ")", x.canWin(b), isValid);
                CHECKS.is("lay(0, 0, " + b + ")", x.lay(0, 0, b), isValid ? 1 : -1);
                CHECKS.is("basket(" + b + ")", x.basket(b), isValid ? 1 : -1);
                CHECKS.is("owners(" + b + ")", x.owners(b), isValid ? 1 : -1);
                CHECKS.isReal("share(" + b + ")", x.share(b), isValid ? 1 : -1);
            }
        });
    }
}
