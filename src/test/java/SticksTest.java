/** Promises 10 to 13, 24, 25 and 30 to 33: votes open, sticks are given, taken back and laid. */
public final class SticksTest {
    private static final Checks CHECKS = new Checks("SticksTest");

    private SticksTest() {
    }

    public static void main(String[] args) {
        open();
        openPutsSticksBack();
        give();
        takeBack();
        lay();
        whyWrong();
        carryCountsOverTheVote();
        stick();
        basketAndOwners();
        carries();
        why();
        whyChangesNothing();
        CHECKS.end();
    }

    private static void open() {
        StickVotes x = Villages.port();
        CHECKS.is("open(1)", x.open(1), -1);
        CHECKS.is("open(5)", x.open(5), -1);
        CHECKS.is("open(-2)", x.open(-2), -1);
        CHECKS.is("no vote", x.value(13), 0);
        CHECKS.is("open(2)", x.open(2), 0);
        CHECKS.is("open(1) when open", x.open(1), -1);
        CHECKS.is("open(2) when open", x.open(2), -5);
        CHECKS.is("state", x.value(8), 1);
        CHECKS.is("baskets", x.value(9), 2);
        CHECKS.is("log of open", Villages.entry(x, 0), "0 2 0 2");
        x.close();
        x.pass(1);
        CHECKS.is("open(4)", x.open(4), 1);
        CHECKS.is("baskets", x.value(9), 4);
        CHECKS.is("votes", x.value(13), 2);
        CHECKS.is("log of the next one", Villages.entry(x, 2), "1 2 1 4");
        CHECKS.is("undo() of open", x.undo(), 3);
        CHECKS.is("state behind undo", x.value(8), 2);
        CHECKS.is("votes behind undo", x.value(13), 1);
        CHECKS.is("open(3)", x.open(3), 1);
        CHECKS.is("baskets", x.value(9), 3);
    }

    private static void openPutsSticksBack() {
        StickVotes x = Villages.port();
        x.give(0, 2, 3);
        x.give(1, 2, -2);
        x.sail(0, 9);
        x.open(2);
        x.lay(2, 0, 1);
        x.lay(2, 1, 0);
        x.lay(3, 3, 1);
        x.contest(4, 0);
        x.close();
        CHECKS.is("recount()", x.recount(), 1);
        x.sail(1, 9);
        CHECKS.is("struck ones", x.value(11), 2);
        CHECKS.is("next open(2)", x.open(2), 1);
        CHECKS.is("view behind the next open", Villages.view(x),
            "ann with cid *\nbob with cid *\ncid hand *\ndan hand\neve hand\n");
        CHECKS.is("bound as it was", x.stick(0, 2), 3);
        CHECKS.is("free as it was", x.stick(1, 2), -2);
        CHECKS.is("no basket", x.stick(0, 3), -2);
        CHECKS.is("no day", x.stick(0, 4), -2);
        CHECKS.is("no reason", x.stick(0, 5), 0);
        CHECKS.is("no day of an own stick", x.stick(3, 4), -2);
        CHECKS.is("struck ones of the next", x.value(11), 0);
        CHECKS.is("recounts of the next", x.value(12), 0);
        CHECKS.is("turnout of the next", x.value(7), 0);
        CHECKS.is("agrees()", x.agrees(), true);
    }

    private static void give() {
        StickVotes x = Villages.port();
        CHECKS.is("give(5, 0, 0)", x.give(5, 0, 0), -1);
        CHECKS.is("give(0, 5, 0)", x.give(0, 5, 0), -1);
        CHECKS.is("give(-1, 0, 0)", x.give(-1, 0, 0), -1);
        CHECKS.is("give(0, -1, 0)", x.give(0, -1, 0), -1);
        CHECKS.is("give(0, 0, 0)", x.give(0, 0, 0), -1);
        CHECKS.is("give(0, 1, 4)", x.give(0, 1, 4), -1);
        CHECKS.is("give(0, 1, -1)", x.give(0, 1, -1), -1);
        CHECKS.is("give(0, 1, -3)", x.give(0, 1, -3), -1);
        CHECKS.is("nothing to undo", x.undo(), -1);
        CHECKS.is("give(0, 3, 3)", x.give(0, 3, 3), 1);
        CHECKS.is("give(1, 3, -2)", x.give(1, 3, -2), 2);
        CHECKS.is("give(2, 3, 0)", x.give(2, 3, 0), 3);
        CHECKS.is("give(0, 3, 3) again", x.give(0, 3, 3), -4);
        CHECKS.is("give(0, 4, 3) again", x.give(0, 4, 3), -4);
        CHECKS.is("give(3, 0, -2)", x.give(3, 0, -2), 1);
        CHECKS.is("carrier", x.stick(0, 1), 3);
        CHECKS.is("bound", x.stick(0, 2), 3);
        CHECKS.is("give is not logged", x.value(14), 0);
        x.sail(0, 3);
        CHECKS.is("give(0, 4, 0) at sea", x.give(0, 4, 0), -3);
        CHECKS.is("give(4, 0, 0) to sea", x.give(4, 0, 0), -3);
        CHECKS.is("give(2, 0, 0), carried, to sea", x.give(2, 0, 0), -3);
        CHECKS.is("give(0, 0, 0) at sea", x.give(0, 0, 0), -1);
        x.open(2);
        x.lay(4, 4, 0);
        CHECKS.is("give(4, 3, 0), laid", x.give(4, 3, 0), -4);
        x.lay(3, 2, 0);
        CHECKS.is("give(2, 4, 0), laid", x.give(2, 4, 0), -4);
        CHECKS.is("carried, not laid", x.person(3, 4), 2);
    }

    private static void takeBack() {
        StickVotes x = Villages.port();
        CHECKS.is("takeBack(5)", x.takeBack(5), -1);
        CHECKS.is("takeBack(-1)", x.takeBack(-1), -1);
        CHECKS.is("takeBack(0) at hand", x.takeBack(0), -4);
        x.give(0, 3, 2);
        CHECKS.is("takeBack(0)", x.takeBack(0), 3);
        CHECKS.is("at hand", x.stick(0, 0), 0);
        CHECKS.is("not bound", x.stick(0, 2), -2);
        CHECKS.is("no carrier", x.stick(0, 1), -2);
        x.give(0, 3, 2);
        x.give(3, 2, 2);
        x.give(2, 4, -2);
        x.sail(1, 3);
        CHECKS.is("takeBack(3), carrier at sea", x.takeBack(3), -3);
        CHECKS.is("takeBack(2), owner at sea", x.takeBack(2), -3);
        x.sail(0, 3);
        CHECKS.is("takeBack(1), at hand and at sea", x.takeBack(1), -3);
        x.open(2);
        x.lay(3, 0, 0);
        CHECKS.is("takeBack(0), laid, owner at sea", x.takeBack(0), -3);
        x.pass(3);
        CHECKS.is("takeBack(0), laid", x.takeBack(0), -4);
        x.lay(2, 3, 0);
        x.sail(1, 5);
        CHECKS.is("takeBack(3), laid by one at sea", x.takeBack(3), -4);
        x.close();
        CHECKS.is("takeBack(0), laid in a closed vote", x.takeBack(0), -4);
        x.open(2);
        CHECKS.is("takeBack(0), carried again", x.takeBack(0), 3);
        CHECKS.is("takeBack(3), carrier at sea again", x.takeBack(3), -3);
        CHECKS.is("undo() of takeBack", x.undo() >= 0, true);
        CHECKS.is("carried behind undo", x.stick(0, 1), 3);
        CHECKS.is("bound behind undo", x.stick(0, 2), 2);
    }

    private static void lay() {
        StickVotes x = Villages.port();
        CHECKS.is("lay(0, 0, 0) without a vote", x.lay(0, 0, 0), -5);
        CHECKS.is("lay(0, 1, 0) without a vote", x.lay(0, 1, 0), -4);
        x.give(0, 3, -2);
        x.give(4, 2, -2);
        x.sail(1, 9);
        CHECKS.is("lay(2, 2, 0) at sea without a vote", x.lay(2, 2, 0), -3);
        x.open(2);
        CHECKS.is("lay(5, 0, 0)", x.lay(5, 0, 0), -1);
        CHECKS.is("lay(0, 5, 0)", x.lay(0, 5, 0), -1);
        CHECKS.is("lay(-1, 0, 0)", x.lay(-1, 0, 0), -1);
        CHECKS.is("lay(0, -1, 0)", x.lay(0, -1, 0), -1);
        CHECKS.is("lay(1, 1, 4)", x.lay(1, 1, 4), -1);
        CHECKS.is("lay(1, 1, -1)", x.lay(1, 1, -1), -1);
        CHECKS.is("lay(1, 1, 2), no such basket", x.lay(1, 1, 2), -5);
        CHECKS.is("lay(0, 0, 0), given away", x.lay(0, 0, 0), -4);
        CHECKS.is("lay(0, 0, 3), given away", x.lay(0, 0, 3), -4);
        CHECKS.is("lay(1, 0, 0), another's", x.lay(1, 0, 0), -4);
        CHECKS.is("lay(2, 4, 0) at sea", x.lay(2, 4, 0), -3);
        CHECKS.is("lay(2, 0, 0) at sea", x.lay(2, 0, 0), -3);
        CHECKS.is("lay(1, 2, 0) of one at sea, at hand", x.lay(1, 2, 0), -4);
        CHECKS.is("lay(4, 4, 0), with one at sea", x.lay(4, 4, 0), -4);
        CHECKS.is("nothing was laid", x.value(7), 0);
        CHECKS.is("lay(3, 0, 1)", x.lay(3, 0, 1), 1);
        CHECKS.is("lay(1, 1, 1)", x.lay(1, 1, 1), 2);
        CHECKS.is("lay(3, 3, 0)", x.lay(3, 3, 0), 1);
        CHECKS.is("lay(3, 3, 0) again", x.lay(3, 3, 0), -4);
        CHECKS.is("lay(3, 0, 0) again", x.lay(3, 0, 0), -4);
        CHECKS.is("log of lay", Villages.entry(x, 2) + "," + Villages.entry(x, 3), "0 3 0 1,0 3 1 1");
        CHECKS.is("contest(4, 0)", x.contest(4, 0), 1);
        CHECKS.is("lay(3, 0, 0), struck", x.lay(3, 0, 0), -4);
        x.comeHome(1);
        CHECKS.is("count without struck ones", x.lay(2, 2, 1), 2);
        x.close();
        CHECKS.is("lay(2, 4, 0), closed", x.lay(2, 4, 0), -5);
        CHECKS.is("lay(2, 2, 0), laid and closed", x.lay(2, 2, 0), -4);
    }

    private static void whyWrong() {
        StickVotes x = Villages.of(Villages.PORT.replace("carry 1", "carry 0"));
        x.give(0, 3, 1);
        x.sail(0, 5);
        x.open(2);
        x.lay(3, 0, 0);
        CHECKS.is("with CARRY 0 the first one is 2", x.stick(0, 5), 2);
        StickVotes y = Villages.port();
        y.give(0, 3, 1);
        y.give(1, 3, 3);
        y.give(2, 3, -2);
        y.give(4, 0, -2);
        y.open(2);
        y.lay(3, 0, 0);
        CHECKS.is("ashore is ahead of bound", y.stick(0, 5), 1);
        y.sail(0, 5);
        y.lay(3, 1, 0);
        CHECKS.is("many is ahead of bound", y.stick(1, 5), 2);
        y.lay(3, 2, 0);
        CHECKS.is("ashore is ahead of many", y.stick(2, 5), 1);
        y.lay(3, 3, 0);
        CHECKS.is("the own one is right", y.stick(3, 5), 0);
        y.comeHome(0);
        CHECKS.is("ann's stays wrong", y.stick(0, 5), 1);
        CHECKS.is("bob's is wrong though home", y.stick(1, 5), 2);
        CHECKS.is("wrongOnes()", y.wrongOnes(), 7);
        CHECKS.is("value(16)", y.value(16), 3);
        y.contest(4, 1);
        CHECKS.is("wrongOnes() without struck ones", y.wrongOnes(), 5);
        CHECKS.is("value(16) without struck ones", y.value(16), 2);
        y.close();
        CHECKS.is("wrongOnes() behind close", y.wrongOnes(), 5);
        y.open(2);
        CHECKS.is("wrongOnes() of the next vote", y.wrongOnes(), 0);
        StickVotes z = Villages.port();
        z.give(0, 3, 3);
        z.give(1, 4, 1);
        z.sail(0, 5);
        z.open(3);
        z.lay(3, 0, 2);
        CHECKS.is("bound to a basket that is not", z.stick(0, 5), 3);
        z.lay(4, 1, 1);
        CHECKS.is("bound to its basket", z.stick(1, 5), 0);
        CHECKS.is("wrongOnes()", z.wrongOnes(), 1);
    }

    private static void carryCountsOverTheVote() {
        StickVotes x = Villages.of(Villages.PORT.replace("carry 1", "carry 2")
            .replace("dan;", "dan of bee;"));
        x.give(0, 4, -2);
        x.give(1, 4, -2);
        x.give(2, 4, -2);
        x.open(2);
        x.lay(4, 2, 0);
        x.contest(4, 2);
        x.sail(0, 5);
        x.lay(4, 0, 0);
        CHECKS.is("one was laid ahead", x.stick(0, 5), 0);
        x.lay(4, 1, 0);
        CHECKS.is("two were laid ahead, one struck", x.stick(1, 5), 2);
        x.close();
        x.open(2);
        CHECKS.is("in the next vote none was laid", x.why(4, 1, 0), 0);
        x.lay(4, 4, 0);
        x.lay(4, 1, 0);
        CHECKS.is("the own one does not count", x.why(4, 0, 0), 0);
    }

    private static void stick() {
        StickVotes x = Villages.port();
        x.give(0, 3, 1);
        x.give(1, 3, -2);
        x.sail(0, 9);
        x.pass(4);
        x.open(2);
        x.lay(3, 0, 0);
        x.lay(4, 4, 1);
        x.contest(3, 0);
        int[][] due = {{3, 3, 1, 0, 4, 3}, {1, 3, -2, -2, -2, 0}, {0, -2, -2, -2, -2, 0},
            {0, -2, -2, -2, -2, 0}, {2, -2, -2, 1, 4, 0}};
        for (int owner = 0; owner < 5; owner++) {
            for (int what = 0; what < 6; what++) {
                CHECKS.is("stick(" + owner + ", " + what + ")", x.stick(owner, what), due[owner][what]);
            }
        }
        x.pass(1);
        CHECKS.is("the day of laying stays", x.stick(4, 4), 4);
        CHECKS.is("stick(0, 6)", x.stick(0, 6), -1);
        CHECKS.is("stick(0, -1)", x.stick(0, -1), -1);
        CHECKS.is("stick(5, 0)", x.stick(5, 0), -1);
        CHECKS.is("stick(-1, 0)", x.stick(-1, 0), -1);
    }

    private static void basketAndOwners() {
        StickVotes x = Villages.port();
        CHECKS.is("basket(0) without a vote", x.basket(0), 0);
        CHECKS.is("owners(0) without a vote", x.owners(0), 0);
        x.open(3);
        x.lay(0, 0, 2);
        x.lay(4, 4, 2);
        x.lay(1, 1, 0);
        x.give(2, 3, -2);
        x.lay(3, 2, 2);
        int[] counts = {1, 0, 3, 0};
        int[] owners = {2, 0, 1 | 16 | 4, 0};
        for (int basket = 0; basket < 4; basket++) {
            CHECKS.is("basket(" + basket + ")", x.basket(basket), counts[basket]);
            CHECKS.is("owners(" + basket + ")", x.owners(basket), owners[basket]);
        }
        x.contest(0, 2);
        CHECKS.is("basket(2) without struck ones", x.basket(2), 2);
        CHECKS.is("owners(2) without struck ones", x.owners(2), 17);
        x.close();
        CHECKS.is("basket(2) behind close", x.basket(2), 2);
        CHECKS.is("owners(2) behind close", x.owners(2), 17);
        int[] wrong = {-1, 4, -2, Integer.MAX_VALUE, Integer.MIN_VALUE};
        for (int basket : wrong) {
            CHECKS.is("basket(" + basket + ")", x.basket(basket), -1);
            CHECKS.is("owners(" + basket + ")", x.owners(basket), -1);
        }
        x.open(2);
        CHECKS.is("basket(2) of the next vote", x.basket(2), 0);
        CHECKS.is("owners(2) of the next vote", x.owners(2), 0);
    }

    private static void carries() {
        StickVotes x = Villages.port();
        CHECKS.is("carries(3) of none", x.carries(3), 0);
        x.give(0, 3, -2);
        x.give(4, 3, 1);
        x.give(3, 4, 1);
        CHECKS.is("carries(3)", x.carries(3), 17);
        CHECKS.is("carries(4)", x.carries(4), 8);
        x.open(2);
        x.lay(3, 0, 0);
        CHECKS.is("carries(3), not laid", x.carries(3), 16);
        x.close();
        x.open(2);
        CHECKS.is("carries(3) again", x.carries(3), 17);
        CHECKS.is("carries(5)", x.carries(5), -1);
        CHECKS.is("carries(-1)", x.carries(-1), -1);
    }

    private static void why() {
        StickVotes x = Villages.port();
        CHECKS.is("why(0, 0, 0) without a vote", x.why(0, 0, 0), -5);
        CHECKS.is("why(0, 1, 0) without a vote", x.why(0, 1, 0), -4);
        CHECKS.is("why(0, 0, 4)", x.why(0, 0, 4), -1);
        CHECKS.is("why(0, 0, -1)", x.why(0, 0, -1), -1);
        CHECKS.is("why(5, 0, 0)", x.why(5, 0, 0), -1);
        CHECKS.is("why(0, 5, 0)", x.why(0, 5, 0), -1);
        danCarriesThree(x);
        CHECKS.is("why(3, 0, 1), owner ashore", x.why(3, 0, 1), 1);
        x.sail(0, 5);
        askWhy(x);
        x.lay(3, 1, 0);
        CHECKS.is("why(3, 0, 1), too many", x.why(3, 0, 1), 2);
        CHECKS.is("why(3, 4, 1), ashore", x.why(3, 4, 1), 1);
        CHECKS.is("why(3, 3, 1), the own one", x.why(3, 3, 1), 0);
        x.close();
        CHECKS.is("why(3, 0, 1), closed", x.why(3, 0, 1), -5);
    }

    private static void danCarriesThree(StickVotes x) {
        x.give(0, 3, 1);
        x.give(1, 3, -2);
        x.give(4, 3, -2);
        x.open(2);
    }

    private static void askWhy(StickVotes x) {
        CHECKS.is("why(3, 0, 1)", x.why(3, 0, 1), 0);
        CHECKS.is("why(3, 0, 0)", x.why(3, 0, 0), 3);
        CHECKS.is("why(3, 1, 0)", x.why(3, 1, 0), 0);
        CHECKS.is("why(3, 3, 0)", x.why(3, 3, 0), 0);
        CHECKS.is("why(3, 3, 2)", x.why(3, 3, 2), -5);
        CHECKS.is("why(1, 1, 0) at sea", x.why(1, 1, 0), -3);
        CHECKS.is("why(2, 0, 0)", x.why(2, 0, 0), -4);
    }

    private static void whyChangesNothing() {
        String behind = Villages.everything(new Again(50, () -> {
            StickVotes x = amiIsOut();
            askWhy(x);
            return x;
        }));
        CHECKS.is("why() changes nothing", behind, Villages.everything(new Again(50, SticksTest::amiIsOut)));
    }

    private static StickVotes amiIsOut() {
        StickVotes x = Villages.port();
        danCarriesThree(x);
        x.sail(0, 5);
        return x;
    }
}
