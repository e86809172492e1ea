/**
 * One long run of calls on one object through the whole face: each call is held against the answer
 * that ../shared/DOC.md asks for.
 */
public final class LongRunTest {
    private static final Checks CHECKS = new Checks("LongRunTest");

    private LongRunTest() {
    }

    public static void main(String[] args) {
        StickVotes x = new StickVotes();
        askTheFirstVillage(x);
        voteInTheFirstVillage(x);
        loadAnotherVillage(x);
        giveAndSail(x);
        openAndLay(x);
        contestAndClose(x);
        recountAndGoOn(x);
        lookBack(x);
        keepAndSailAgain(x);
        layInTheSecondVote(x);
        undoAndRestore(x);
        strikeBehindTheClosing(x);
        voteTheThirdTime(x);
        loadWrongTexts(x);
        loadAThirdVillage(x);
        CHECKS.end();
    }

    private static void askTheFirstVillage(StickVotes x) {
        CHECKS.is("value(0)", x.value(0), 0);
        CHECKS.is("value(2)", x.value(2), 2);
        CHECKS.is("value(3)", x.value(3), 0);
        CHECKS.is("value(6)", x.value(6), 1);
        CHECKS.is("value(8)", x.value(8), 0);
        CHECKS.is("value(10)", x.value(10), -2);
        CHECKS.is("value(15)", x.value(15), 2);
        CHECKS.is("value(17)", x.value(17), -1);
        CHECKS.is("setupLength()", x.setupLength(), 90);
        CHECKS.is("setupByte(0)", x.setupByte(0), 115);
        CHECKS.is("viewLength()", x.viewLength(), 14);
        CHECKS.is("viewByte(0)", x.viewByte(0), 97);
        CHECKS.is("storyLength()", x.storyLength(), 0);
        CHECKS.is("number(0)", x.number(0), 90);
        CHECKS.is("number(5)", x.number(5), 1);
        CHECKS.is("number(10)", x.number(10), -1);
        CHECKS.is("person(0, 0)", x.person(0, 0), -2);
        CHECKS.is("person(2, 0)", x.person(2, 0), -1);
        CHECKS.is("boat(0, 0)", x.boat(0, 0), -1);
        CHECKS.is("stick(0, 0)", x.stick(0, 0), 0);
        CHECKS.is("stick(0, 1)", x.stick(0, 1), -2);
        CHECKS.is("basket(0)", x.basket(0), 0);
        CHECKS.is("basket(4)", x.basket(4), -1);
        CHECKS.is("leads()", x.leads(), -5);
        CHECKS.is("truly()", x.truly(), -5);
        CHECKS.is("decisive()", x.decisive(), -5);
        CHECKS.is("lacks()", x.lacks(), -5);
        CHECKS.is("canWin(0)", x.canWin(0), false);
        CHECKS.is("agrees()", x.agrees(), true);
        CHECKS.isReal("seafaring()", x.seafaring(), 0);
        CHECKS.isReal("share(0)", x.share(0), 0);
        CHECKS.isReal("share(4)", x.share(4), -1);
        CHECKS.is("mightiest()", x.mightiest(), -2);
        CHECKS.is("bestDay(5)", x.bestDay(5), 0);
        CHECKS.is("past(0, 0)", x.past(0, 0), -2);
        CHECKS.is("past(-1, 0)", x.past(-1, 0), -1);
    }

    private static void voteInTheFirstVillage(StickVotes x) {
        CHECKS.is("close()", x.close(), -5);
        CHECKS.is("recount()", x.recount(), -5);
        CHECKS.is("open(1)", x.open(1), -1);
        CHECKS.is("open(2)", x.open(2), 0);
        CHECKS.is("lay(0, 0, 1)", x.lay(0, 0, 1), 1);
        CHECKS.is("lay(0, 0, 1)", x.lay(0, 0, 1), -4);
        CHECKS.is("basket(1)", x.basket(1), 1);
        CHECKS.is("value(7)", x.value(7), 1);
        CHECKS.is("leads()", x.leads(), 1);
        CHECKS.is("undo()", x.undo(), 1);
        CHECKS.is("undo()", x.undo(), 0);
        CHECKS.is("undo()", x.undo(), -1);
        CHECKS.is("restore(0)", x.restore(0), -2);
        CHECKS.is("errorPosition()", x.errorPosition(), -2);
        CHECKS.is("pass(0)", x.pass(0), -1);
        CHECKS.is("pass(100)", x.pass(100), -1);
        CHECKS.is("join(0, 0)", x.join(0, 0), -1);
        CHECKS.is("join(0, -2)", x.join(0, -2), -2);
    }

    private static void loadAnotherVillage(StickVotes x) {
        CHECKS.is("append",
            x.append(1936023923, 1869488177, 807433064, 1634887027, 540422176), 20);
        CHECKS.is("append",
            x.append(875569205, 807417136, 543974771, 1931489568, 1818583411), 40);
        CHECKS.is("append",
            x.append(1948267040, 1667330674, 2032152864, 1634758757, 1634476083), 60);
        CHECKS.is("append",
            x.append(544367971, 1869966964, 1931489595, 1651466612, 543651180), 80);
        CHECKS.is("append",
            x.append(1815831151, 1635000436, 1701998139, 1885696627, 1869488225), 100);
        CHECKS.is("append",
            x.append(1852717936, 1701999471, 1847616111, 1646292838, 543651180), 120);
        CHECKS.is("append",
            x.append(1815834725, 1920167790, 543383924, 544171552, 1735748716), 140);
        CHECKS.is("append",
            x.append(997221746, 1936682528, 1684106784, 1868963956, 1701998139), 160);
        CHECKS.is("append",
            x.append(1885696627, 1869488229, 1986345760, 538976288, 538976288), 180);
        CHECKS.is("truncate(9)", x.truncate(9), 171);
        CHECKS.is("load()", x.load(), 5);
        CHECKS.is("setupLength()", x.setupLength(), 171);
        CHECKS.is("setupByte(170)", x.setupByte(170), 59);
        CHECKS.is("value(3)", x.value(3), 2);
        CHECKS.is("value(6)", x.value(6), 3);
        CHECKS.is("value(15)", x.value(15), 5);
    }

    private static void giveAndSail(StickVotes x) {
        CHECKS.is("give(1, 0, 2)", x.give(1, 0, 2), 1);
        CHECKS.is("give(2, 0, -2)", x.give(2, 0, -2), 2);
        CHECKS.is("stick(1, 0)", x.stick(1, 0), 1);
        CHECKS.is("stick(1, 1)", x.stick(1, 1), 0);
        CHECKS.is("stick(1, 2)", x.stick(1, 2), 2);
        CHECKS.is("person(0, 4)", x.person(0, 4), 2);
        CHECKS.is("carries(0)", x.carries(0), 6);
        CHECKS.is("takeBack(4)", x.takeBack(4), -4);
        CHECKS.is("give(1, 3, -2)", x.give(1, 3, -2), -4);
        CHECKS.is("give(3, 3, 0)", x.give(3, 3, 0), -1);
        CHECKS.is("sail(0, 5)", x.sail(0, 5), 2);
        CHECKS.is("value(4)", x.value(4), 1);
        CHECKS.is("value(5)", x.value(5), 2);
        CHECKS.is("value(6)", x.value(6), 2);
        CHECKS.is("person(1, 1)", x.person(1, 1), 1);
        CHECKS.is("person(1, 2)", x.person(1, 2), 5);
        CHECKS.is("boat(0, 0)", x.boat(0, 0), 1);
        CHECKS.is("boat(0, 1)", x.boat(0, 1), 5);
        CHECKS.is("boat(0, 2)", x.boat(0, 2), 2);
        CHECKS.is("boat(0, 3)", x.boat(0, 3), 2);
        CHECKS.is("boat(0, 4)", x.boat(0, 4), 1);
        CHECKS.is("sail(0, 3)", x.sail(0, 3), -4);
        CHECKS.is("delay(1, 1)", x.delay(1, 1), -4);
        CHECKS.is("join(1, 1)", x.join(1, 1), -3);
        CHECKS.is("mightiest()", x.mightiest(), 0);
    }

    private static void openAndLay(StickVotes x) {
        CHECKS.is("lay(0, 0, 0)", x.lay(0, 0, 0), -5);
        CHECKS.is("open(3)", x.open(3), 0);
        CHECKS.is("open(2)", x.open(2), -5);
        CHECKS.is("open(5)", x.open(5), -1);
        CHECKS.is("why(0, 1, 2)", x.why(0, 1, 2), 0);
        CHECKS.is("why(0, 1, 1)", x.why(0, 1, 1), 3);
        CHECKS.is("why(0, 2, 0)", x.why(0, 2, 0), 0);
        CHECKS.is("why(1, 1, 0)", x.why(1, 1, 0), -3);
        CHECKS.is("why(0, 3, 0)", x.why(0, 3, 0), -4);
        CHECKS.is("why(0, 0, 3)", x.why(0, 0, 3), -5);
        CHECKS.is("lay(0, 1, 2)", x.lay(0, 1, 2), 1);
        CHECKS.is("why(0, 2, 0)", x.why(0, 2, 0), 2);
        CHECKS.is("lay(0, 2, 0)", x.lay(0, 2, 0), 1);
        CHECKS.is("lay(0, 0, 0)", x.lay(0, 0, 0), 2);
        CHECKS.is("stick(2, 5)", x.stick(2, 5), 2);
        CHECKS.is("wrongOnes()", x.wrongOnes(), 4);
        CHECKS.is("value(16)", x.value(16), 1);
        CHECKS.is("owners(0)", x.owners(0), 5);
        CHECKS.is("value(7)", x.value(7), 3);
        CHECKS.is("person(0, 5)", x.person(0, 5), 2);
        CHECKS.is("mightiest()", x.mightiest(), -2);
        CHECKS.is("leads()", x.leads(), 0);
        CHECKS.is("truly()", x.truly(), 0);
        CHECKS.is("canWin(1)", x.canWin(1), false);
        CHECKS.is("canWin(2)", x.canWin(2), true);
        CHECKS.is("canWin(3)", x.canWin(3), false);
        CHECKS.is("decisive()", x.decisive(), 1);
        CHECKS.is("lacks()", x.lacks(), 0);
    }

    private static void contestAndClose(StickVotes x) {
        CHECKS.is("lay(3, 3, 2)", x.lay(3, 3, 2), 2);
        CHECKS.is("leads()", x.leads(), 0);
        CHECKS.isReal("share(0)", x.share(0), 0.5);
        CHECKS.is("contest(4, 1)", x.contest(4, 1), 0);
        CHECKS.is("person(4, 3)", x.person(4, 3), 1);
        CHECKS.is("contest(4, 2)", x.contest(4, 2), 2);
        CHECKS.is("value(11)", x.value(11), 1);
        CHECKS.is("leads()", x.leads(), 2);
        CHECKS.is("contest(4, 2)", x.contest(4, 2), -4);
        CHECKS.is("agrees()", x.agrees(), true);
        CHECKS.is("close()", x.close(), 3);
        CHECKS.is("value(10)", x.value(10), 2);
        CHECKS.is("value(8)", x.value(8), 2);
        CHECKS.is("past(0, 1)", x.past(0, 1), 3);
        CHECKS.is("past(0, 2)", x.past(0, 2), 2);
        CHECKS.is("past(0, 3)", x.past(0, 3), 2);
        CHECKS.is("past(0, 0)", x.past(0, 0), 0);
    }

    private static void recountAndGoOn(StickVotes x) {
        CHECKS.is("close()", x.close(), -5);
        CHECKS.is("leads()", x.leads(), -5);
        CHECKS.is("lacks()", x.lacks(), -5);
        CHECKS.is("lay(4, 4, 0)", x.lay(4, 4, 0), -5);
        CHECKS.is("recount()", x.recount(), 0);
        CHECKS.is("recount()", x.recount(), -5);
        CHECKS.is("value(12)", x.value(12), 1);
        CHECKS.is("pass(4)", x.pass(4), 0);
        CHECKS.is("value(8)", x.value(8), 3);
        CHECKS.is("contest(4, 0)", x.contest(4, 0), -5);
        CHECKS.is("pass(1)", x.pass(1), 2);
        CHECKS.is("value(5)", x.value(5), 0);
        CHECKS.is("person(1, 6)", x.person(1, 6), 5);
        CHECKS.is("value(4)", x.value(4), 0);
        CHECKS.isReal("seafaring()", x.seafaring(), 0.4);
        CHECKS.is("takeBack(1)", x.takeBack(1), -4);
        CHECKS.is("open(2)", x.open(2), 1);
        CHECKS.is("stick(1, 0)", x.stick(1, 0), 1);
        CHECKS.is("stick(2, 0)", x.stick(2, 0), 1);
        CHECKS.is("stick(0, 0)", x.stick(0, 0), 0);
    }

    private static void lookBack(StickVotes x) {
        CHECKS.is("value(13)", x.value(13), 2);
        CHECKS.is("value(9)", x.value(9), 2);
        CHECKS.is("value(8)", x.value(8), 1);
        CHECKS.is("value(10)", x.value(10), -2);
        CHECKS.is("value(11)", x.value(11), 0);
        CHECKS.is("value(12)", x.value(12), 0);
        CHECKS.is("value(1)", x.value(1), 0);
        CHECKS.is("value(6)", x.value(6), 3);
        CHECKS.is("value(14)", x.value(14), 11);
        CHECKS.is("log(0, 0)", x.log(0, 0), 0);
        CHECKS.is("log(0, 1)", x.log(0, 1), 0);
        CHECKS.is("log(0, 2)", x.log(0, 2), 0);
        CHECKS.is("log(0, 3)", x.log(0, 3), 5);
        CHECKS.is("log(9, 0)", x.log(9, 0), 5);
        CHECKS.is("log(9, 1)", x.log(9, 1), 1);
        CHECKS.is("log(9, 3)", x.log(9, 3), 2);
        CHECKS.is("log(11, 0)", x.log(11, 0), -2);
        CHECKS.is("log(-1, 0)", x.log(-1, 0), -1);
        CHECKS.is("log(0, 4)", x.log(0, 4), -1);
        CHECKS.is("storyLength()", x.storyLength(), 129);
        CHECKS.is("storyByte(0)", x.storyByte(0), 48);
        CHECKS.is("storyByte(2)", x.storyByte(2), 115);
        CHECKS.is("storyByte(128)", x.storyByte(128), 10);
        CHECKS.is("storyByte(129)", x.storyByte(129), -2);
        CHECKS.is("storyByte(-1)", x.storyByte(-1), -1);
        CHECKS.is("viewLength()", x.viewLength(), 53);
        CHECKS.is("viewByte(0)", x.viewByte(0), 97);
        CHECKS.is("viewByte(52)", x.viewByte(52), 10);
        CHECKS.is("viewByte(53)", x.viewByte(53), -2);
        CHECKS.is("viewByte(-1)", x.viewByte(-1), -1);
        CHECKS.is("named(ann, false)", x.named(Villages.letters("ann"), false), 0);
        CHECKS.is("named(ann, true)", x.named(Villages.letters("ann"), true), -2);
        CHECKS.is("named(gull, true)", x.named(Villages.letters("gull"), true), 0);
        CHECKS.is("named(tern, true)", x.named(Villages.letters("tern"), true), 1);
        CHECKS.is("named(0, false)", x.named(0, false), -1);
        CHECKS.is("person(4, 3)", x.person(4, 3), 1);
        CHECKS.is("lacks()", x.lacks(), 3);
        CHECKS.is("leads()", x.leads(), -2);
        CHECKS.is("truly()", x.truly(), -2);
        CHECKS.is("decisive()", x.decisive(), 0);
    }

    private static void keepAndSailAgain(StickVotes x) {
        CHECKS.is("give(3, 4, 0)", x.give(3, 4, 0), 1);
        CHECKS.is("takeBack(3)", x.takeBack(3), 4);
        CHECKS.is("stick(3, 0)", x.stick(3, 0), 0);
        CHECKS.is("stick(3, 2)", x.stick(3, 2), -2);
        CHECKS.is("give(3, 4, 1)", x.give(3, 4, 1), 1);
        CHECKS.is("keep(1)", x.keep(1), 5);
        CHECKS.is("keep(2)", x.keep(2), -1);
        CHECKS.is("restore(0)", x.restore(0), -2);
        CHECKS.is("sail(1, 2)", x.sail(1, 2), 1);
        CHECKS.is("needIfHome(1)", x.needIfHome(1), 3);
        CHECKS.is("needIfHome(0)", x.needIfHome(0), -4);
        CHECKS.is("needIfHome(2)", x.needIfHome(2), -1);
        CHECKS.is("value(6)", x.value(6), 2);
        CHECKS.is("needIn(0)", x.needIn(0), 2);
        CHECKS.is("needIn(1)", x.needIn(1), 2);
        CHECKS.is("needIn(2)", x.needIn(2), 3);
        CHECKS.is("needIn(5)", x.needIn(5), 2);
        CHECKS.is("needIn(15)", x.needIn(15), 3);
        CHECKS.is("needIn(1000)", x.needIn(1000), -1);
        CHECKS.is("needIn(-1)", x.needIn(-1), -1);
        CHECKS.is("bestDay(2)", x.bestDay(2), 0);
        CHECKS.is("bestDay(5)", x.bestDay(5), 5);
        CHECKS.is("bestDay(99)", x.bestDay(99), 5);
        CHECKS.is("bestDay(0)", x.bestDay(0), -1);
        CHECKS.is("delay(1, 3)", x.delay(1, 3), 10);
        CHECKS.is("delay(1, 100)", x.delay(1, 100), -1);
        CHECKS.is("boat(1, 1)", x.boat(1, 1), 10);
        CHECKS.is("person(3, 2)", x.person(3, 2), 10);
        CHECKS.is("mightiest()", x.mightiest(), 4);
        CHECKS.is("carries(4)", x.carries(4), 8);
    }

    private static void layInTheSecondVote(StickVotes x) {
        CHECKS.is("why(4, 3, 1)", x.why(4, 3, 1), 0);
        CHECKS.is("why(4, 3, 0)", x.why(4, 3, 0), 3);
        CHECKS.is("why(0, 1, 1)", x.why(0, 1, 1), 1);
        CHECKS.is("canWin(0)", x.canWin(0), true);
        CHECKS.is("canWin(2)", x.canWin(2), false);
        CHECKS.is("lay(4, 3, 1)", x.lay(4, 3, 1), 1);
        CHECKS.is("lay(0, 1, 1)", x.lay(0, 1, 1), 2);
        CHECKS.is("stick(1, 5)", x.stick(1, 5), 1);
        CHECKS.is("lay(0, 2, 0)", x.lay(0, 2, 0), 1);
        CHECKS.is("lay(4, 4, 0)", x.lay(4, 4, 0), 2);
        CHECKS.is("lay(1, 1, 0)", x.lay(1, 1, 0), -4);
        CHECKS.is("wrongOnes()", x.wrongOnes(), 6);
        CHECKS.is("value(16)", x.value(16), 2);
        CHECKS.is("value(7)", x.value(7), 4);
        CHECKS.is("leads()", x.leads(), 1);
        CHECKS.is("truly()", x.truly(), 1);
        CHECKS.is("decisive()", x.decisive(), 2);
        CHECKS.is("lacks()", x.lacks(), 0);
        CHECKS.is("owners(0)", x.owners(0), 20);
        CHECKS.is("owners(1)", x.owners(1), 10);
        CHECKS.is("owners(4)", x.owners(4), -1);
        CHECKS.is("basket(1)", x.basket(1), 2);
        CHECKS.isReal("share(1)", x.share(1), 0.5);
        CHECKS.is("canWin(0)", x.canWin(0), true);
        CHECKS.is("canWin(1)", x.canWin(1), true);
        CHECKS.is("agrees()", x.agrees(), true);
        CHECKS.is("viewLength()", x.viewLength(), 67);
        CHECKS.is("viewByte(54)", x.viewByte(54), 42);
    }

    private static void undoAndRestore(StickVotes x) {
        CHECKS.is("value(14)", x.value(14), 16);
        CHECKS.is("undo()", x.undo(), 7);
        CHECKS.is("stick(4, 0)", x.stick(4, 0), 0);
        CHECKS.is("value(14)", x.value(14), 15);
        CHECKS.is("agrees()", x.agrees(), true);
        CHECKS.is("lay(4, 4, 0)", x.lay(4, 4, 0), 2);
        CHECKS.is("restore(1)", x.restore(1), 5);
        CHECKS.is("value(14)", x.value(14), 11);
        CHECKS.is("value(7)", x.value(7), 0);
        CHECKS.is("stick(3, 0)", x.stick(3, 0), 1);
        CHECKS.is("boat(1, 0)", x.boat(1, 0), 0);
        CHECKS.is("boat(1, 4)", x.boat(1, 4), 0);
        CHECKS.is("undo()", x.undo(), 7);
        CHECKS.is("value(7)", x.value(7), 4);
        CHECKS.is("boat(1, 4)", x.boat(1, 4), 1);
    }

    private static void strikeBehindTheClosing(StickVotes x) {
        CHECKS.is("close()", x.close(), 4);
        CHECKS.is("value(10)", x.value(10), 1);
        CHECKS.is("value(8)", x.value(8), 2);
        CHECKS.is("past(1, 2)", x.past(1, 2), 2);
        CHECKS.is("past(1, 3)", x.past(1, 3), 1);
        CHECKS.is("past(2, 0)", x.past(2, 0), -2);
        CHECKS.is("contest(0, 1)", x.contest(0, 1), 1);
        CHECKS.is("value(10)", x.value(10), 0);
        CHECKS.is("value(11)", x.value(11), 1);
        CHECKS.is("past(1, 1)", x.past(1, 1), 3);
        CHECKS.is("past(1, 3)", x.past(1, 3), 0);
        CHECKS.is("comeHome(1)", x.comeHome(1), 1);
        CHECKS.is("comeHome(1)", x.comeHome(1), -4);
        CHECKS.is("comeHome(2)", x.comeHome(2), -1);
        CHECKS.is("value(6)", x.value(6), 2);
        CHECKS.is("join(3, -2)", x.join(3, -2), 2);
        CHECKS.is("setupLength()", x.setupLength(), 163);
        CHECKS.is("setupByte(162)", x.setupByte(162), 59);
        CHECKS.is("setupByte(163)", x.setupByte(163), -2);
        CHECKS.is("join(3, 0)", x.join(3, 0), 0);
        CHECKS.is("person(3, 0)", x.person(3, 0), 0);
        CHECKS.is("boat(0, 3)", x.boat(0, 3), 3);
        CHECKS.is("recount()", x.recount(), 1);
        CHECKS.is("value(10)", x.value(10), 1);
        CHECKS.is("value(12)", x.value(12), 1);
        CHECKS.is("truly()", x.truly(), 1);
        CHECKS.is("basket(0)", x.basket(0), 1);
        CHECKS.is("recount()", x.recount(), -5);
        CHECKS.is("value(14)", x.value(14), 22);
        CHECKS.is("log(20, 1)", x.log(20, 1), 4);
        CHECKS.is("log(20, 2)", x.log(20, 2), 2);
        CHECKS.is("log(21, 1)", x.log(21, 1), 7);
        CHECKS.is("log(21, 3)", x.log(21, 3), 1);
        CHECKS.is("pass(3)", x.pass(3), 0);
        CHECKS.is("value(8)", x.value(8), 2);
        CHECKS.is("pass(1)", x.pass(1), 0);
        CHECKS.is("value(8)", x.value(8), 3);
        CHECKS.is("contest(0, 4)", x.contest(0, 4), -5);
        CHECKS.is("pass(1)", x.pass(1), 0);
        CHECKS.is("value(1)", x.value(1), 1);
        CHECKS.isReal("seafaring()", x.seafaring(), 10.0 / 50.0);
    }

    private static void voteTheThirdTime(StickVotes x) {
        CHECKS.is("open(4)", x.open(4), 2);
        CHECKS.is("stick(3, 0)", x.stick(3, 0), 1);
        CHECKS.is("stick(3, 1)", x.stick(3, 1), 4);
        CHECKS.is("stick(3, 2)", x.stick(3, 2), 1);
        CHECKS.is("value(9)", x.value(9), 4);
        CHECKS.is("sail(0, 1)", x.sail(0, 1), 3);
        CHECKS.is("value(6)", x.value(6), 2);
        CHECKS.is("canWin(3)", x.canWin(3), true);
        CHECKS.is("lay(0, 1, 3)", x.lay(0, 1, 3), 1);
        CHECKS.is("stick(1, 5)", x.stick(1, 5), 3);
        CHECKS.is("lay(0, 2, 3)", x.lay(0, 2, 3), 2);
        CHECKS.is("stick(2, 5)", x.stick(2, 5), 2);
        CHECKS.is("contest(4, 2)", x.contest(4, 2), 2);
        CHECKS.is("contest(4, 2)", x.contest(4, 2), -4);
        CHECKS.is("contest(4, 3)", x.contest(4, 3), -4);
        CHECKS.is("contest(3, 1)", x.contest(3, 1), -3);
        CHECKS.is("lay(4, 3, 1)", x.lay(4, 3, 1), 1);
        CHECKS.is("contest(0, 3)", x.contest(0, 3), 0);
        CHECKS.is("contest(4, 3)", x.contest(4, 3), 0);
        CHECKS.is("contest(4, 3)", x.contest(4, 3), 0);
        CHECKS.is("contest(4, 1)", x.contest(4, 1), -4);
        CHECKS.is("person(4, 3)", x.person(4, 3), 3);
        CHECKS.is("person(0, 3)", x.person(0, 3), 1);
        CHECKS.is("takeBack(1)", x.takeBack(1), -3);
        CHECKS.is("close()", x.close(), 2);
        CHECKS.is("value(10)", x.value(10), 3);
        CHECKS.is("recount()", x.recount(), 1);
        CHECKS.is("value(10)", x.value(10), -2);
        CHECKS.is("past(2, 3)", x.past(2, 3), -2);
        CHECKS.is("value(14)", x.value(14), 30);
        CHECKS.is("log(0, 1)", x.log(0, 1), 3);
        CHECKS.is("log(0, 2)", x.log(0, 2), 0);
        CHECKS.is("log(29, 1)", x.log(29, 1), 7);
        CHECKS.is("log(29, 3)", x.log(29, 3), -1);
        CHECKS.is("log(30, 0)", x.log(30, 0), -2);
        CHECKS.is("storyLength()", x.storyLength(), 371);
        CHECKS.is("storyByte(368)", x.storyByte(368), 45);
        CHECKS.is("storyByte(370)", x.storyByte(370), 10);
        CHECKS.is("storyByte(371)", x.storyByte(371), -2);
        CHECKS.is("agrees()", x.agrees(), true);
        CHECKS.is("pass(1)", x.pass(1), 3);
        CHECKS.is("person(3, 6)", x.person(3, 6), 1);
        CHECKS.is("person(1, 6)", x.person(1, 6), 6);
        CHECKS.isReal("seafaring()", x.seafaring(), 13.0 / 55.0);
    }

    private static void loadWrongTexts(StickVotes x) {
        CHECKS.is("tapeLength()", x.tapeLength(), 0);
        Villages.put(x, "season 5 shares 1 2 ");
        CHECKS.is("tapeLength()", x.tapeLength(), 20);
        CHECKS.is("truncate(21)", x.truncate(21), -1);
        CHECKS.is("truncate(-1)", x.truncate(-1), -1);
        CHECKS.is("truncate(0)", x.truncate(0), 20);
        CHECKS.is("load()", x.load(), -1);
        CHECKS.is("errorPosition()", x.errorPosition(), 20);
        CHECKS.is("tapeLength()", x.tapeLength(), 0);
        CHECKS.is("value(2)", x.value(2), 5);
        CHECKS.is("undo()", x.undo(), 7);
        CHECKS.is("value(0)", x.value(0), 10);
        CHECKS.is("errorPosition()", x.errorPosition(), 20);
        CHECKS.is("load()", x.load(), -1);
        CHECKS.is("errorPosition()", x.errorPosition(), 0);
    }

    private static void loadAThirdVillage(StickVotes x) {
        Villages.put(x, Villages.numbers(1, "100 0 0 0", 9, 1, 0, 0, 0) + "person z;person y;");
        CHECKS.is("tapeLength()", x.tapeLength(), 87);
        CHECKS.is("load()", x.load(), 2);
        CHECKS.is("errorPosition()", x.errorPosition(), -2);
        CHECKS.is("tapeLength()", x.tapeLength(), 0);
        CHECKS.is("value(0)", x.value(0), 0);
        CHECKS.is("value(3)", x.value(3), 0);
        CHECKS.is("value(6)", x.value(6), 2);
        CHECKS.is("value(8)", x.value(8), 0);
        CHECKS.is("value(13)", x.value(13), 0);
        CHECKS.is("value(14)", x.value(14), 0);
        CHECKS.is("person(0, 3)", x.person(0, 3), 0);
        CHECKS.is("number(5)", x.number(5), 9);
        CHECKS.is("number(8)", x.number(8), 0);
        CHECKS.is("named(z, false)", x.named(Villages.letters("z"), false), 0);
        CHECKS.is("named(ann, false)", x.named(Villages.letters("ann"), false), -2);
        CHECKS.is("past(2, 0)", x.past(2, 0), -2);
        CHECKS.is("restore(1)", x.restore(1), -2);
        CHECKS.is("undo()", x.undo(), -1);
        CHECKS.isReal("seafaring()", x.seafaring(), 0);
        CHECKS.is("agrees()", x.agrees(), true);
    }
}
