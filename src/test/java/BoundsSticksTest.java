/**
 * The sentences of DOC.md that name a boundary: sticks, and right and wrong (sections 2 and 3), and
 * promises 10 to 13, 24, 25 and 30 to 33. What is refused is in BoundsRefusalsTest, too.
 */
public final class BoundsSticksTest {
    private static final Checks CHECKS = new Checks("BoundsSticksTest");
    private static final String NUMBERS = Villages.numbers(10, "50 40 60 100", 1, 2, 1, 3, 1);

    private BoundsSticksTest() {
    }

    public static void main(String[] args) {
        sticksStay();
        voteOpens();
        sticksAreWhereTheyWere();
        whoCanLay();
        rightAndWrong();
        firstReason();
        carryLimit();
        carryCountsInThisVote();
        boundToAnother();
        open();
        give();
        giveAnyNumber();
        takeBack();
        lay();
        stick();
        stickPlaces();
        basketAndOwners();
        carries();
        wrongOnes();
        why();
        whyRefused();
        CHECKS.end();
    }

    /** Twenty people; those from 10 on belong to the boat 0; a CARRY. */
    private static StickVotes crowd(int carry) {
        return Villages.crowd(Villages.numbers(10, "0 0 0 0", 0, 1, carry, 3, 1), 20, 1, p -> p < 10 ? -2 : 0);
    }

    private static void sticksStay() {
        CHECKS.holds("Section 2", "it stays there until it is taken back (also from vote to vote).", () -> {
            StickVotes x = Villages.port();
            x.give(0, 3, 1);
            for (int vote = 0; vote < 3; vote++) {
                CHECKS.is("open(2)", x.open(2), vote);
                CHECKS.is("place", x.stick(0, 0), 1);
                CHECKS.is("carrier", x.stick(0, 1), 3);
                CHECKS.is("bound to", x.stick(0, 2), 1);
                if (vote == 1) x.lay(3, 0, 1);
                x.close();
                x.pass(9);
            }
            x.sail(0, 1);
            x.pass(1);
            CHECKS.is("behind a journey", x.stick(0, 1), 3);
            CHECKS.is("takeBack(0)", x.takeBack(0), 3);
            x.open(2);
            CHECKS.is("in the next vote", x.stick(0, 0), 0);
        });
        CHECKS.holds("Section 2", "A stick that is laid stays in its basket until the next vote opens.", () -> {
            StickVotes x = Villages.port();
            x.open(2);
            x.lay(0, 0, 1);
            x.sail(0, 1);
            x.close();
            x.pass(99);
            CHECKS.is("place", x.stick(0, 0), 2);
            CHECKS.is("basket", x.stick(0, 3), 1);
            CHECKS.is("basket(1)", x.basket(1), 1);
            x.open(2);
            CHECKS.is("place when the next opens", x.stick(0, 0), 0);
            CHECKS.is("basket(1) when the next opens", x.basket(1), 0);
        });
    }

    private static void voteOpens() {
        CHECKS.holds("Section 2", "At most one vote is open at a time.", () -> {
            StickVotes x = new StickVotes();
            CHECKS.is("open(2)", x.open(2), 0);
            CHECKS.is("open(2) when one is open", x.open(2), -5);
            CHECKS.is("votes", x.value(13), 1);
            x.close();
            CHECKS.is("open(2) when none is open", x.open(2), 1);
            CHECKS.is("open(3) when one is open", x.open(3), -5);
            CHECKS.is("baskets", x.value(9), 2);
        });
        CHECKS.holds("Section 2", "It has 2 to 4 baskets, numbered from 0.", () -> {
            for (int baskets = 2; baskets <= 4; baskets++) {
                StickVotes x = Villages.port();
                CHECKS.is("open(" + baskets + ")", x.open(baskets), 0);
                for (int b = 0; b < 4; b++) {
                    CHECKS.is("lay() in the basket " + b + " of " + baskets, x.lay(b, b, b), b < baskets ? 1 : -5);
                }
                CHECKS.is("lay() in the basket 4", x.lay(4, 4, 4), -1);
                CHECKS.is("turnout", x.value(7), baskets);
            }
        });
    }

    private static void sticksAreWhereTheyWere() {
        String words = "When it opens, all sticks that were laid in the vote ahead (struck ones, too) are where they were when they were laid: at hand of their owners, or with their carriers (also at sea), bound as they were.";
        CHECKS.holds("Section 2", words, () -> {
            StickVotes x = Villages.port();
            x.give(0, 2, 3);
            x.give(1, 2, -2);
            x.give(3, 4, 0);
            x.open(2);
            x.lay(2, 0, 0);
            x.lay(2, 1, 1);
            x.lay(4, 3, 1);
            x.lay(2, 2, 1);
            CHECKS.is("contest(3, 0)", x.contest(3, 0), 1);
            x.close();
            CHECKS.is("recount()", x.recount(), 2);
            x.sail(0, 9);
            x.sail(1, 9);
            CHECKS.is("open(2)", x.open(2), 1);
            int[][] due = {{1, 2, 3, -2, -2, 0}, {1, 2, -2, -2, -2, 0}, {0, -2, -2, -2, -2, 0},
                {1, 4, 0, -2, -2, 0}, {0, -2, -2, -2, -2, 0}};
            for (int owner = 0; owner < 5; owner++) {
                for (int what = 0; what < 6; what++) {
                    CHECKS.is("stick(" + owner + ", " + what + ")", x.stick(owner, what), due[owner][what]);
                }
            }
            CHECKS.is("struck ones", x.value(11), 0);
            CHECKS.is("wrongOnes()", x.wrongOnes(), 0);
            CHECKS.is("carried by one at sea", x.carries(2), 3);
        });
        CHECKS.holds("Section 2", words, () -> {
            StickVotes x = crowd(1);
            for (int p = 1; p < 20; p++) x.give(p, 0, p % 4);
            x.open(4);
            for (int p = 0; p < 20; p++) x.lay(0, p, p % 4);
            CHECKS.is("turnout of all", x.close(), 20);
            CHECKS.is("recount()", x.recount(), 19);
            x.open(2);
            CHECKS.is("at hand", x.stick(0, 0), 0);
            CHECKS.is("carried", x.carries(0), 0xffffe);
            for (int p = 1; p < 20; p++) CHECKS.is("bound to", x.stick(p, 2), p % 4);
        });
    }

    private static void whoCanLay() {
        CHECKS.holds("Section 2", "A person who is ashore can lay the own stick, if it is at hand, and any stick that this person carries.", () -> {
            StickVotes x = crowd(1);
            for (int p = 0; p < 19; p++) x.give(p, 19, -2);
            x.open(2);
            for (int p = 0; p < 20; p++) CHECKS.is("lay(19, " + p + ", 0)", x.lay(19, p, 0), p + 1);
        });
        CHECKS.holds("Section 2", "A person who is ashore can lay the own stick, if it is at hand", () -> {
            StickVotes x = Villages.port();
            x.give(0, 3, -2);
            x.open(2);
            CHECKS.is("lay() of the own one, carried", x.lay(0, 0, 0), -4);
            CHECKS.is("lay() of another's at hand", x.lay(0, 1, 0), -4);
            CHECKS.is("lay() of one that another carries", x.lay(4, 0, 0), -4);
            x.takeBack(0);
            CHECKS.is("lay() of the own one, taken back", x.lay(0, 0, 0), 1);
            CHECKS.is("lay() of the own one, laid", x.lay(0, 0, 1), -4);
            CHECKS.is("its reason", x.stick(0, 5), 0);
        });
    }

    private static void rightAndWrong() {
        CHECKS.holds("Section 3", "A stick that its owner lays is right.", () -> {
            StickVotes x = crowd(0);
            for (int p = 10; p < 20; p++) x.give(p, 0, 1);
            x.open(2);
            for (int p = 10; p < 20; p++) x.lay(0, p, 0);
            CHECKS.is("lay(0, 0, 0) behind ten of others", x.lay(0, 0, 0), 11);
            CHECKS.is("its reason", x.stick(0, 5), 0);
            CHECKS.is("contest(1, 0)", x.contest(1, 0), 0);
        });
        CHECKS.holds("Section 3", "A stick that its carrier lays is wrong for the first of these reasons that was so when it was laid", () -> {
            StickVotes x = Villages.port();
            x.give(0, 3, -2);
            x.give(1, 4, -2);
            x.open(2);
            x.lay(3, 0, 0);
            x.sail(0, 2);
            x.lay(4, 1, 0);
            CHECKS.is("the owner sails later", x.stick(0, 5), 1);
            x.pass(2);
            CHECKS.is("the owner is home later", x.stick(1, 5), 0);
            CHECKS.is("contest(2, 1)", x.contest(2, 1), 0);
            CHECKS.is("contest(2, 0)", x.contest(2, 0), 1);
        });
        CHECKS.holds("Section 3", "1 the owner was ashore", () -> {
            StickVotes x = Villages.port();
            x.give(0, 3, -2);
            x.open(2);
            x.sail(0, 1);
            CHECKS.is("ahead of BACK", x.why(3, 0, 0), 0);
            x.pass(1);
            CHECKS.is("on BACK", x.why(3, 0, 0), 1);
            x.sail(0, 9);
            CHECKS.is("at sea again", x.why(3, 0, 0), 0);
            x.comeHome(0);
            CHECKS.is("behind comeHome()", x.why(3, 0, 0), 1);
        });
        CHECKS.holds("Section 3", "Wrong sticks count as all others, until they are struck.", () -> {
            StickVotes x = Villages.port();
            x.give(0, 3, -2);
            x.open(2);
            CHECKS.is("lay(3, 0, 1)", x.lay(3, 0, 1), 1);
            CHECKS.is("basket(1)", x.basket(1), 1);
            CHECKS.is("turnout", x.value(7), 1);
            CHECKS.is("lay(1, 1, 1)", x.lay(1, 1, 1), 2);
            CHECKS.is("leads()", x.leads(), -2);
            CHECKS.is("lay(2, 2, 0)", x.lay(2, 2, 0), 1);
            CHECKS.is("leads() with it", x.leads(), 1);
            x.contest(4, 0);
            CHECKS.is("basket(1) without it", x.basket(1), 1);
            CHECKS.is("turnout without it", x.value(7), 2);
        });
    }

    private static void firstReason() {
        CHECKS.holds("Section 3", "wrong for the first of these reasons that was so when it was laid: 1 the owner was ashore; 2 the carrier had laid CARRY sticks of others or more in this vote already", () -> {
            for (int row = 0; row < 8; row++) {
                boolean isAshore = (row & 1) != 0;
                boolean isMany = (row & 2) != 0;
                boolean isOther = (row & 4) != 0;
                StickVotes x = crowd(isMany ? 0 : 1);
                int owner = isAshore ? 1 : 10;
                x.give(owner, 0, isOther ? 1 : 0);
                x.sail(0, 5);
                x.open(2);
                int due = isAshore ? 1 : isMany ? 2 : isOther ? 3 : 0;
                CHECKS.is("why() of row " + row, x.why(0, owner, 0), due);
                x.lay(0, owner, 0);
                CHECKS.is("stick() of row " + row, x.stick(owner, 5), due);
                CHECKS.is("wrongOnes() of row " + row, x.wrongOnes(), due == 0 ? 0 : 1 << owner);
                CHECKS.is("contest() of row " + row, x.contest(5, owner), due);
            }
        });
    }

    private static void carryLimit() {
        String words = "2 the carrier had laid CARRY sticks of others or more in this vote already (wrong ones and such that are struck, too)";
        for (int carry = 0; carry <= 9; carry++) {
            int limit = carry;
            CHECKS.holds("Section 3", words, () -> {
                StickVotes x = crowd(limit);
                for (int p = 10; p < 20; p++) x.give(p, 0, -2);
                x.sail(0, 5);
                x.open(2);
                x.lay(0, 0, 0);
                for (int p = 10; p < 20; p++) {
                    CHECKS.is("why() with CARRY " + limit, x.why(0, p, 0), p - 10 < limit ? 0 : 2);
                    x.lay(0, p, 0);
                    CHECKS.is("reason with CARRY " + limit, x.stick(p, 5), p - 10 < limit ? 0 : 2);
                }
            });
        }
        CHECKS.holds("Section 3", words, () -> {
            StickVotes x = crowd(2);
            x.give(1, 0, -2);
            x.give(2, 0, -2);
            x.give(10, 0, -2);
            x.sail(0, 5);
            x.open(2);
            x.lay(0, 1, 0);
            CHECKS.is("behind a wrong one", x.why(0, 10, 0), 0);
            x.contest(3, 1);
            CHECKS.is("behind a struck one", x.why(0, 10, 0), 0);
            x.lay(0, 2, 0);
            CHECKS.is("behind a struck and a wrong one", x.why(0, 10, 0), 2);
            x.contest(3, 2);
            CHECKS.is("behind two struck ones", x.why(0, 10, 0), 2);
        });
    }

    private static void carryCountsInThisVote() {
        CHECKS.holds("Section 3", "the carrier had laid CARRY sticks of others or more in this vote already", () -> {
            StickVotes x = crowd(1);
            x.give(10, 0, -2);
            x.give(11, 0, -2);
            x.give(12, 1, -2);
            x.sail(0, 50);
            x.open(2);
            x.lay(0, 10, 0);
            CHECKS.is("in this vote", x.why(0, 11, 0), 2);
            CHECKS.is("another carrier", x.why(1, 12, 0), 0);
            x.close();
            x.open(2);
            CHECKS.is("in the next vote", x.why(0, 11, 0), 0);
            x.lay(0, 11, 0);
            CHECKS.is("in the next vote, behind one", x.why(0, 10, 0), 2);
            x.undo();
            CHECKS.is("behind undo()", x.why(0, 10, 0), 0);
        });
        CHECKS.holds("Section 3", "the carrier had laid CARRY sticks of others", () -> {
            StickVotes x = crowd(1);
            x.give(10, 0, -2);
            x.sail(0, 50);
            x.open(2);
            x.lay(0, 0, 0);
            x.lay(1, 1, 0);
            CHECKS.is("the own one does not count", x.why(0, 10, 0), 0);
        });
    }

    private static void boundToAnother() {
        CHECKS.holds("Section 3", "3 it was bound to another basket (also one that this vote does not have).", () -> {
            for (int bound = -2; bound < 4; bound++) {
                if (bound == -1) continue;
                StickVotes x = crowd(9);
                x.give(10, 0, bound);
                x.sail(0, 5);
                x.open(2);
                for (int basket = 0; basket < 2; basket++) {
                    int due = bound == -2 || bound == basket ? 0 : 3;
                    CHECKS.is("bound to " + bound + ", laid in " + basket + " of 2", x.why(0, 10, basket), due);
                }
                x.close();
                x.open(4);
                for (int basket = 0; basket < 4; basket++) {
                    int due = bound == -2 || bound == basket ? 0 : 3;
                    CHECKS.is("bound to " + bound + ", laid in " + basket, x.why(0, 10, basket), due);
                    x.lay(0, 10, basket);
                    CHECKS.is("reason", x.stick(10, 5), due);
                    x.undo();
                }
            }
        });
    }

    private static void open() {
        CHECKS.holds("Promise 10", "`baskets`: 2 to 4", () -> {
            StickVotes x = Villages.port();
            int[] wrongs = {1, 5, 0, -1, -2, Integer.MIN_VALUE, Integer.MAX_VALUE};
            for (int baskets : wrongs) CHECKS.is("open(" + baskets + ")", x.open(baskets), -1);
            CHECKS.is("no vote", x.value(13), 0);
            for (int baskets = 2; baskets <= 4; baskets++) {
                CHECKS.is("open(" + baskets + ")", x.open(baskets), baskets - 2);
                CHECKS.is("its baskets", x.value(9), baskets);
                x.close();
            }
        });
        CHECKS.holds("Promise 10", "Returns its number (from 0 on)", () -> {
            StickVotes x = Villages.port();
            for (int vote = 0; vote < 40; vote++) {
                CHECKS.is("open(4)", x.open(4), vote);
                x.close();
            }
            CHECKS.is("votes", x.value(13), 40);
        });
        CHECKS.holds("Promise 10", "TOO_LATE if one is open.", () -> {
            StickVotes x = Villages.port();
            x.open(2);
            for (int baskets = 2; baskets <= 4; baskets++) CHECKS.is("open(" + baskets + ")", x.open(baskets), -5);
            CHECKS.is("open(1) when one is open", x.open(1), -1);
            CHECKS.is("open(5) when one is open", x.open(5), -1);
        });
    }

    private static void give() {
        CHECKS.holds("Promise 11", "`basket`: a basket to which it is bound, or NOT_FOUND for a free one", () -> {
            StickVotes x = Villages.port();
            int[] wrongs = {-1, -3, 4, 5, Integer.MIN_VALUE, Integer.MAX_VALUE};
            for (int basket : wrongs) CHECKS.is("give(0, 3, " + basket + ")", x.give(0, 3, basket), -1);
            CHECKS.is("place", x.stick(0, 0), 0);
            int[] rights = {-2, 0, 1, 2, 3};
            x.open(2);
            for (int basket : rights) {
                CHECKS.is("give(0, 3, " + basket + ")", x.give(0, 3, basket), 1);
                CHECKS.is("bound to", x.stick(0, 2), basket);
                x.takeBack(0);
            }
        });
        CHECKS.holds("Promise 11", "`owner`: a person", () -> {
            StickVotes x = crowd(1);
            CHECKS.is("give(-1, 0, 0)", x.give(-1, 0, 0), -1);
            CHECKS.is("give(20, 0, 0)", x.give(20, 0, 0), -1);
            CHECKS.is("give(0, 19, 0)", x.give(0, 19, 0), 1);
            CHECKS.is("give(19, 0, 0)", x.give(19, 0, 0), 1);
        });
        CHECKS.holds("Promise 11", "`carrier`: another person", () -> {
            StickVotes x = crowd(1);
            CHECKS.is("give(0, -1, 0)", x.give(0, -1, 0), -1);
            CHECKS.is("give(0, 20, 0)", x.give(0, 20, 0), -1);
            CHECKS.is("give(0, 0, 0)", x.give(0, 0, 0), -1);
            CHECKS.is("give(19, 19, -2)", x.give(19, 19, -2), -1);
            CHECKS.is("place", x.stick(0, 0), 0);
        });
        CHECKS.holds("Promise 11", "AT_SEA if one of both is at sea", () -> {
            StickVotes x = Villages.port();
            x.sail(0, 1);
            CHECKS.is("give(0, 3, 0), the owner at sea", x.give(0, 3, 0), -3);
            CHECKS.is("give(3, 0, 0), the carrier at sea", x.give(3, 0, 0), -3);
            CHECKS.is("give(0, 1, 0), both at sea", x.give(0, 1, 0), -3);
            CHECKS.is("give(3, 4, 0), none at sea", x.give(3, 4, 0), 1);
            x.pass(1);
            CHECKS.is("give(0, 1, 0), both ashore again", x.give(0, 1, 0), 1);
        });
        CHECKS.holds("Promise 11", "NOT_THERE if the stick is not at hand.", () -> {
            StickVotes x = Villages.port();
            x.give(0, 3, 1);
            CHECKS.is("give(0, 4, 1), carried", x.give(0, 4, 1), -4);
            CHECKS.is("give(0, 3, 2), carried by the same one", x.give(0, 3, 2), -4);
            CHECKS.is("bound to", x.stick(0, 2), 1);
            x.open(2);
            x.lay(4, 4, 0);
            x.lay(3, 0, 0);
            CHECKS.is("give(4, 3, 0), laid", x.give(4, 3, 0), -4);
            CHECKS.is("give(0, 4, 0), laid by its carrier", x.give(0, 4, 0), -4);
            x.contest(2, 0);
            CHECKS.is("give(0, 4, 0), struck", x.give(0, 4, 0), -4);
            x.close();
            CHECKS.is("give(4, 3, 0), laid in a closed vote", x.give(4, 3, 0), -4);
        });
    }

    private static void giveAnyNumber() {
        CHECKS.holds("Promise 11", "Gives a stick away (one may carry any number of them).", () -> {
            StickVotes x = crowd(0);
            for (int p = 0; p < 19; p++) CHECKS.is("give(" + p + ", 19, -2)", x.give(p, 19, -2), p + 1);
            CHECKS.is("carries(19)", x.carries(19), 0x7ffff);
            CHECKS.is("give(19, 0, -2), who carries others'", x.give(19, 0, -2), 1);
        });
        CHECKS.holds("Promise 11", "Returns how many sticks of others the carrier carries then", () -> {
            StickVotes x = Villages.port();
            x.give(0, 3, -2);
            x.give(3, 0, -2);
            CHECKS.is("give(1, 3, -2)", x.give(1, 3, -2), 2);
            x.open(2);
            x.lay(3, 0, 0);
            x.lay(3, 1, 0);
            CHECKS.is("give(4, 3, -2), the others are laid", x.give(4, 3, -2), 1);
        });
    }

    private static void takeBack() {
        CHECKS.holds("Promise 12", "Takes a stick back from its carrier; it is at hand then, and not bound.", () -> {
            StickVotes x = Villages.port();
            x.give(0, 3, 0);
            x.takeBack(0);
            int[] due = {0, -2, -2, -2, -2, 0};
            for (int what = 0; what < 6; what++) CHECKS.is("stick(0, " + what + ")", x.stick(0, what), due[what]);
            CHECKS.is("carries(3)", x.carries(3), 0);
        });
        CHECKS.holds("Promise 12", "Returns the person who carried it", () -> {
            StickVotes x = crowd(1);
            x.give(19, 0, 3);
            x.give(0, 19, -2);
            CHECKS.is("takeBack(19)", x.takeBack(19), 0);
            CHECKS.is("takeBack(0)", x.takeBack(0), 19);
        });
        CHECKS.holds("Promise 12", "INVALID for an invalid argument", () -> {
            StickVotes x = crowd(1);
            int[] wrongs = {-1, -2, 20, 21, Integer.MIN_VALUE, Integer.MAX_VALUE};
            for (int owner : wrongs) CHECKS.is("takeBack(" + owner + ")", x.takeBack(owner), -1);
        });
        CHECKS.holds("Promise 12", "AT_SEA if the owner or the carrier is at sea", () -> {
            StickVotes x = Villages.port();
            x.give(0, 3, -2);
            x.give(4, 1, -2);
            x.give(2, 0, -2);
            x.sail(0, 1);
            CHECKS.is("takeBack(0), the owner at sea", x.takeBack(0), -3);
            CHECKS.is("takeBack(4), the carrier at sea", x.takeBack(4), -3);
            x.sail(1, 2);
            CHECKS.is("takeBack(2), both at sea", x.takeBack(2), -3);
            x.pass(1);
            CHECKS.is("takeBack(2), still the owner", x.takeBack(2), -3);
            CHECKS.is("takeBack(4), both ashore", x.takeBack(4), 1);
        });
        CHECKS.holds("Promise 12", "NOT_THERE if nobody carries it (as it is at hand or laid).", () -> {
            StickVotes x = Villages.port();
            CHECKS.is("takeBack(0), at hand", x.takeBack(0), -4);
            x.give(0, 3, -2);
            x.open(2);
            x.lay(3, 0, 0);
            x.lay(4, 4, 0);
            CHECKS.is("takeBack(0), laid by its carrier", x.takeBack(0), -4);
            CHECKS.is("takeBack(4), laid by its owner", x.takeBack(4), -4);
            x.contest(2, 0);
            CHECKS.is("takeBack(0), struck", x.takeBack(0), -4);
            x.close();
            CHECKS.is("takeBack(0), of a closed vote", x.takeBack(0), -4);
            x.open(2);
            CHECKS.is("takeBack(0), carried again", x.takeBack(0), 3);
            CHECKS.is("takeBack(0), at hand again", x.takeBack(0), -4);
        });
    }

    private static void lay() {
        CHECKS.holds("Promise 13", "Returns the count of the basket then", () -> {
            StickVotes x = crowd(1);
            x.open(2);
            for (int p = 0; p < 20; p++) CHECKS.is("lay(" + p + ", " + p + ", 1)", x.lay(p, p, 1), p + 1);
            StickVotes y = Villages.port();
            y.give(0, 3, -2);
            y.open(2);
            y.lay(3, 0, 1);
            y.contest(4, 0);
            CHECKS.is("lay() behind a struck one", y.lay(4, 4, 1), 1);
        });
        CHECKS.holds("Promise 13", "INVALID for an invalid argument", () -> {
            StickVotes x = crowd(1);
            x.open(4);
            int[] people = {-1, 20, -2, Integer.MIN_VALUE, Integer.MAX_VALUE};
            for (int p : people) {
                CHECKS.is("lay(" + p + ", 0, 0)", x.lay(p, 0, 0), -1);
                CHECKS.is("lay(0, " + p + ", 0)", x.lay(0, p, 0), -1);
                CHECKS.is("lay(" + p + ", " + p + ", 0)", x.lay(p, p, 0), -1);
            }
            int[] baskets = {-1, 4, -2, Integer.MIN_VALUE, Integer.MAX_VALUE};
            for (int basket : baskets) CHECKS.is("lay(0, 0, " + basket + ")", x.lay(0, 0, basket), -1);
            CHECKS.is("lay(0, 0, 0)", x.lay(0, 0, 0), 1);
            CHECKS.is("lay(19, 19, 3)", x.lay(19, 19, 3), 1);
        });
        CHECKS.holds("Promise 13", "TOO_LATE if no vote is open, or it has no such basket.", () -> {
            StickVotes x = Villages.port();
            CHECKS.is("lay() without a vote", x.lay(0, 0, 0), -5);
            x.open(2);
            CHECKS.is("lay() in the basket 2 of 2", x.lay(0, 0, 2), -5);
            CHECKS.is("lay() in the basket 3 of 2", x.lay(0, 0, 3), -5);
            CHECKS.is("lay() in the basket 1 of 2", x.lay(0, 0, 1), 1);
            x.close();
            CHECKS.is("lay() in a closed vote", x.lay(1, 1, 0), -5);
            x.open(3);
            CHECKS.is("lay() in the basket 3 of 3", x.lay(0, 0, 3), -5);
            CHECKS.is("lay() in the basket 2 of 3", x.lay(0, 0, 2), 1);
        });
    }

    private static void stick() {
        CHECKS.holds("Promise 24", "INVALID for an invalid argument.", () -> {
            StickVotes x = crowd(1);
            int[] whats = {-1, 6, -2, 7, Integer.MIN_VALUE, Integer.MAX_VALUE};
            for (int what : whats) CHECKS.is("stick(0, " + what + ")", x.stick(0, what), -1);
            int[] owners = {-1, 20, -2, Integer.MIN_VALUE, Integer.MAX_VALUE};
            for (int owner : owners) {
                for (int what = 0; what < 6; what++) CHECKS.is("stick(" + owner + ", " + what + ")", x.stick(owner, what), -1);
            }
            CHECKS.is("stick(19, 0)", x.stick(19, 0), 0);
        });
        CHECKS.holds("Promise 24", "1 its carrier, or the one who laid it for its owner (NOT_FOUND without one)", () -> {
            StickVotes x = crowd(1);
            CHECKS.is("at hand", x.stick(1, 1), -2);
            x.give(1, 0, -2);
            x.give(0, 19, -2);
            CHECKS.is("carried by 0", x.stick(1, 1), 0);
            CHECKS.is("carried by 19", x.stick(0, 1), 19);
            x.open(2);
            x.lay(0, 1, 0);
            x.lay(2, 2, 0);
            CHECKS.is("laid by 0", x.stick(1, 1), 0);
            CHECKS.is("laid by its owner", x.stick(2, 1), -2);
            x.contest(3, 1);
            CHECKS.is("struck", x.stick(1, 1), 0);
        });
        CHECKS.holds("Promise 24", "2 the basket to which it is bound (NOT_FOUND if to none)", () -> {
            StickVotes x = crowd(1);
            CHECKS.is("at hand", x.stick(0, 2), -2);
            for (int basket = 0; basket < 4; basket++) {
                x.give(basket, 19, basket);
                CHECKS.is("bound", x.stick(basket, 2), basket);
            }
            x.give(4, 19, -2);
            CHECKS.is("carried and free", x.stick(4, 2), -2);
        });
        CHECKS.holds("Promise 24", "5 why it is wrong (0 if it is right, or not laid)", () -> {
            StickVotes x = crowd(0);
            x.give(1, 0, -2);
            CHECKS.is("at hand", x.stick(0, 5), 0);
            CHECKS.is("carried", x.stick(1, 5), 0);
            x.open(2);
            x.lay(0, 1, 0);
            x.lay(0, 0, 0);
            CHECKS.is("wrong", x.stick(1, 5), 1);
            CHECKS.is("right", x.stick(0, 5), 0);
            x.contest(3, 1);
            CHECKS.is("struck", x.stick(1, 5), 1);
            x.close();
            x.open(2);
            CHECKS.is("not laid in the next vote", x.stick(1, 5), 0);
        });
    }

    private static void stickPlaces() {
        CHECKS.holds("Promise 24", "0 where it is (0 at hand, 1 carried, 2 laid, 3 laid and struck)", () -> {
            StickVotes x = Villages.port();
            CHECKS.is("at hand", x.stick(0, 0), 0);
            x.give(0, 3, -2);
            CHECKS.is("carried", x.stick(0, 0), 1);
            x.open(2);
            x.lay(3, 0, 1);
            CHECKS.is("laid", x.stick(0, 0), 2);
            x.contest(4, 0);
            CHECKS.is("struck", x.stick(0, 0), 3);
            CHECKS.is("its basket", x.stick(0, 3), 1);
            x.close();
            CHECKS.is("struck in a closed vote", x.stick(0, 0), 3);
        });
        CHECKS.holds("Promise 24", "3 its basket (NOT_FOUND if it is not laid), 4 the day on which it was laid (NOT_FOUND likewise)", () -> {
            StickVotes x = Villages.port();
            CHECKS.is("basket at hand", x.stick(0, 3), -2);
            CHECKS.is("day at hand", x.stick(0, 4), -2);
            x.give(0, 3, 2);
            CHECKS.is("basket, carried", x.stick(0, 3), -2);
            CHECKS.is("day, carried", x.stick(0, 4), -2);
            x.open(4);
            x.lay(1, 1, 0);
            CHECKS.is("the day 0", x.stick(1, 4), 0);
            CHECKS.is("the basket 0", x.stick(1, 3), 0);
            x.pass(99);
            x.lay(3, 0, 3);
            CHECKS.is("the day 99", x.stick(0, 4), 99);
            CHECKS.is("the basket 3", x.stick(0, 3), 3);
            x.pass(1);
            x.close();
            CHECKS.is("the day stays", x.stick(0, 4), 99);
        });
        CHECKS.holds("Promise 24", "3 its basket (NOT_FOUND if it is not laid), 4 the day on which it was laid (NOT_FOUND likewise)", () -> {
            StickVotes x = crowd(1);
            x.open(4);
            for (int p = 0; p < 20; p++) {
                x.lay(p, p, p % 4);
                x.pass(1);
            }
            for (int p = 0; p < 20; p++) {
                CHECKS.is("stick(" + p + ", 3)", x.stick(p, 3), p % 4);
                CHECKS.is("stick(" + p + ", 4)", x.stick(p, 4), p);
            }
        });
    }

    private static void basketAndOwners() {
        CHECKS.holds("Promise 25", "Returns its count (0 if there is no such basket)", () -> {
            StickVotes x = crowd(1);
            for (int b = 0; b < 4; b++) CHECKS.is("basket(" + b + ") without a vote", x.basket(b), 0);
            x.open(2);
            for (int p = 0; p < 20; p++) x.lay(p, p, 1);
            int[] due = {0, 20, 0, 0};
            for (int b = 0; b < 4; b++) CHECKS.is("basket(" + b + ")", x.basket(b), due[b]);
            x.close();
            for (int b = 0; b < 4; b++) CHECKS.is("basket(" + b + "), closed", x.basket(b), due[b]);
        });
        CHECKS.holds("Promise 25", "INVALID for an invalid argument.", () -> {
            StickVotes x = crowd(1);
            int[] wrongs = {-1, 4, -2, 5, Integer.MIN_VALUE, Integer.MAX_VALUE};
            for (int b : wrongs) CHECKS.is("basket(" + b + ") without a vote", x.basket(b), -1);
            x.open(4);
            for (int b : wrongs) CHECKS.is("basket(" + b + ")", x.basket(b), -1);
        });
        CHECKS.holds("Promise 30", "Returns the owners of the sticks that are laid in it and not struck, as a bit mask", () -> {
            StickVotes x = crowd(1);
            x.give(1, 0, -2);
            for (int b = 0; b < 4; b++) CHECKS.is("owners(" + b + ") without a vote", x.owners(b), 0);
            x.open(4);
            x.lay(0, 0, 3);
            CHECKS.is("the first one", x.owners(3), 1);
            x.lay(19, 19, 0);
            CHECKS.is("the last one", x.owners(0), 1 << 19);
            x.lay(0, 1, 3);
            CHECKS.is("one more", x.owners(3), 3);
            x.contest(4, 1);
            CHECKS.is("without a struck one", x.owners(3), 1);
            StickVotes y = crowd(1);
            y.open(2);
            for (int p = 0; p < 20; p++) y.lay(p, p, 0);
            CHECKS.is("all", y.owners(0), 0xfffff);
            CHECKS.is("none", y.owners(1), 0);
            CHECKS.is("a basket that the vote does not have", y.owners(2), 0);
        });
        CHECKS.holds("Promise 30", "INVALID for an invalid argument.", () -> {
            StickVotes x = crowd(1);
            int[] wrongs = {-1, 4, -2, 5, Integer.MIN_VALUE, Integer.MAX_VALUE};
            for (int b : wrongs) CHECKS.is("owners(" + b + ")", x.owners(b), -1);
        });
    }

    private static void carries() {
        CHECKS.holds("Promise 31", "Returns the owners of the sticks that the person carries (not laid), as a bit mask", () -> {
            StickVotes x = crowd(1);
            CHECKS.is("none", x.carries(0), 0);
            x.give(1, 0, -2);
            CHECKS.is("one", x.carries(0), 2);
            for (int p = 2; p < 20; p++) x.give(p, 0, -2);
            CHECKS.is("nineteen", x.carries(0), 0xffffe);
            x.give(0, 19, -2);
            CHECKS.is("the first one's", x.carries(19), 1);
            x.open(2);
            x.lay(0, 19, 0);
            CHECKS.is("without a laid one", x.carries(0), 0x7fffe);
            x.contest(5, 19);
            CHECKS.is("without a struck one", x.carries(0), 0x7fffe);
        });
        CHECKS.holds("Promise 31", "INVALID for an invalid argument.", () -> {
            StickVotes x = crowd(1);
            int[] wrongs = {-1, 20, -2, 21, Integer.MIN_VALUE, Integer.MAX_VALUE};
            for (int p : wrongs) CHECKS.is("carries(" + p + ")", x.carries(p), -1);
        });
    }

    private static void wrongOnes() {
        CHECKS.holds("Promise 32", "Returns the owners of the sticks that are laid, wrong and not struck, as a bit mask.", () -> {
            StickVotes x = crowd(0);
            CHECKS.is("without a vote", x.wrongOnes(), 0);
            for (int p = 0; p < 19; p++) x.give(p, 19, -2);
            x.give(19, 18, -2);
            x.open(2);
            CHECKS.is("of none", x.wrongOnes(), 0);
            x.lay(18, 19, 0);
            CHECKS.is("of the last one", x.wrongOnes(), 1 << 19);
            for (int p = 0; p < 19; p++) x.lay(19, p, 0);
            CHECKS.is("of all", x.wrongOnes(), 0xfffff);
            x.contest(5, 0);
            CHECKS.is("without a struck one", x.wrongOnes(), 0xffffe);
            x.close();
            CHECKS.is("of a closed vote", x.wrongOnes(), 0xffffe);
            x.recount();
            CHECKS.is("behind a recount", x.wrongOnes(), 0);
            x.open(2);
            x.takeBack(5);
            x.lay(5, 5, 0);
            CHECKS.is("of right ones", x.wrongOnes(), 0);
        });
    }

    private static void why() {
        CHECKS.holds("Promise 33", "otherwise for what reason the stick would be wrong (1 to 3), 0 if it would be right", () -> {
            StickVotes x = crowd(1);
            x.give(1, 0, -2);
            x.give(10, 0, 1);
            x.give(11, 2, -2);
            x.give(12, 2, -2);
            x.sail(0, 9);
            x.open(2);
            CHECKS.is("why(0, 0, 1)", x.why(0, 0, 1), 0);
            CHECKS.is("why(0, 1, 0)", x.why(0, 1, 0), 1);
            CHECKS.is("why(0, 10, 0)", x.why(0, 10, 0), 3);
            CHECKS.is("why(0, 10, 1)", x.why(0, 10, 1), 0);
            x.lay(2, 11, 0);
            CHECKS.is("why(2, 12, 0)", x.why(2, 12, 0), 2);
            CHECKS.is("nothing is laid by it", x.value(7), 1);
        });
        CHECKS.holds("Promise 33", "INVALID for an invalid argument.", () -> {
            StickVotes x = crowd(1);
            int[] people = {-1, 20, -2, Integer.MIN_VALUE, Integer.MAX_VALUE};
            int[] baskets = {-1, 4, -2, Integer.MIN_VALUE, Integer.MAX_VALUE};
            for (int turn = 0; turn < 2; turn++) {
                for (int p : people) {
                    CHECKS.is("why(" + p + ", 0, 0)", x.why(p, 0, 0), -1);
                    CHECKS.is("why(0, " + p + ", 0)", x.why(0, p, 0), -1);
                    CHECKS.is("why(10, " + p + ", 0)", x.why(10, p, 0), -1);
                }
                for (int basket : baskets) {
                    CHECKS.is("why(0, 0, " + basket + ")", x.why(0, 0, basket), -1);
                    CHECKS.is("why(0, 1, " + basket + ")", x.why(0, 1, basket), -1);
                    CHECKS.is("why(10, 10, " + basket + ")", x.why(10, 10, basket), -1);
                }
                x.open(2);
                x.sail(0, 9);
            }
        });
    }

    private static void whyRefused() {
        CHECKS.holds("Promise 33", "Returns the reason by which lay() would be refused now (below 0)", () -> {
            StickVotes x = Villages.port();
            x.give(4, 3, -2);
            CHECKS.is("TOO_LATE without a vote", x.why(0, 0, 0), -5);
            CHECKS.is("NOT_THERE ahead of TOO_LATE", x.why(0, 4, 0), -4);
            x.sail(0, 9);
            CHECKS.is("AT_SEA ahead of TOO_LATE", x.why(0, 0, 0), -3);
            CHECKS.is("AT_SEA ahead of both", x.why(0, 4, 0), -3);
            x.open(2);
            CHECKS.is("AT_SEA", x.why(0, 0, 0), -3);
            CHECKS.is("NOT_THERE", x.why(2, 4, 0), -4);
            CHECKS.is("TOO_LATE, no such basket", x.why(2, 2, 2), -5);
            CHECKS.is("NOT_THERE ahead of no such basket", x.why(2, 4, 2), -4);
            x.lay(2, 2, 0);
            CHECKS.is("NOT_THERE, laid", x.why(2, 2, 0), -4);
            x.close();
            CHECKS.is("TOO_LATE, closed", x.why(3, 4, 0), -5);
        });
    }
}
