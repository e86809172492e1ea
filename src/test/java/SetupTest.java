/** Promises 1 to 5, 26, 29 and 50 to 52: a new object, the tape, load, the numbers and the names. */
public final class SetupTest {
    private static final Checks CHECKS = new Checks("SetupTest");
    private static final String NUMBERS = Villages.numbers(10, "50 40 60 100", 1, 2, 1, 3, 1);
    private static final String TWO = "person a;person b;";

    private SetupTest() {
    }

    public static void main(String[] args) {
        newObject();
        newObjectsRules();
        append();
        truncate();
        loadReplacesAll();
        loadOnAnError();
        loadReadsTokensGreedily();
        loadTakesTheGreatestVillage();
        errorPosition();
        errorsInNumbers();
        errorsInBoatsAndPeople();
        errorsInTokens();
        number();
        named();
        setupText();
        tapeLength();
        CHECKS.end();
    }

    private static void newObject() {
        StickVotes x = new StickVotes();
        CHECKS.is("setup 1", Villages.setup(x), "season 90 shares 50 50 50 50 less 1 least 1 "
            + "carry 1 appeal 3 recounts 1;person a;person b;");
        CHECKS.is("view 1", Villages.view(x), "a hand\nb hand\n");
        CHECKS.is("story 1", Villages.story(x), "");
        int[] due = {0, 0, 2, 0, 0, 0, 1, 0, 0, 0, -2, 0, 0, 0, 0, 2, 0};
        for (int what = 0; what < due.length; what++) {
            CHECKS.is("new value(" + what + ")", x.value(what), due[what]);
        }
        CHECKS.is("new tapeLength()", x.tapeLength(), 0);
        CHECKS.is("new errorPosition()", x.errorPosition(), -2);
        CHECKS.is("new restore(0)", x.restore(0), -2);
        CHECKS.is("new restore(1)", x.restore(1), -2);
        CHECKS.is("new undo()", x.undo(), -1);
        CHECKS.is("new boat(0, 0)", x.boat(0, 0), -1);
        CHECKS.is("new person(2, 0)", x.person(2, 0), -1);
    }

    private static void newObjectsRules() {
        int[] due = {90, 50, 50, 50, 50, 1, 1, 1, 3, 1};
        StickVotes x = new StickVotes();
        for (int what = 0; what < due.length; what++) {
            CHECKS.is("new number(" + what + ")", x.number(what), due[what]);
        }
        CHECKS.is("INVALID", StickVotes.INVALID, -1);
        CHECKS.is("NOT_FOUND", StickVotes.NOT_FOUND, -2);
        CHECKS.is("AT_SEA", StickVotes.AT_SEA, -3);
        CHECKS.is("NOT_THERE", StickVotes.NOT_THERE, -4);
        CHECKS.is("TOO_LATE", StickVotes.TOO_LATE, -5);
    }

    private static void append() {
        StickVotes x = new StickVotes();
        for (int i = 1; i <= 40; i++) CHECKS.is("append 2", x.append(i, -i, 0, 1, 2), 20 * i);
        CHECKS.is("append beyond 800", x.append(1, 2, 3, 4, 5), -1);
        CHECKS.is("tape of 800", x.tapeLength(), 800);
        CHECKS.is("truncate(20)", x.truncate(20), 780);
        CHECKS.is("append up to 800", x.append(1, 2, 3, 4, 5), 800);
        CHECKS.is("truncate(19)", x.truncate(19), 781);
        CHECKS.is("append to 801", x.append(1, 2, 3, 4, 5), -1);
        CHECKS.is("tape stays", x.tapeLength(), 781);
        // Twenty bytes in their order: only so they read "season 1 shares 0 0 ".
        StickVotes y = new StickVotes();
        y.append(0x73656173, 0x6f6e2031, 0x20736861, 0x72657320, 0x30203020);
        CHECKS.is("load of 20 bytes", y.load(), -1);
        CHECKS.is("error behind 20 bytes", y.errorPosition(), 20);
    }

    private static void truncate() {
        StickVotes x = new StickVotes();
        CHECKS.is("truncate(0) of 0", x.truncate(0), 0);
        CHECKS.is("truncate(1) of 0", x.truncate(1), -1);
        x.append(0, 0, 0, 0, 0);
        CHECKS.is("truncate(-1)", x.truncate(-1), -1);
        CHECKS.is("truncate(21)", x.truncate(21), -1);
        CHECKS.is("truncate(MIN)", x.truncate(Integer.MIN_VALUE), -1);
        CHECKS.is("truncate(MAX)", x.truncate(Integer.MAX_VALUE), -1);
        CHECKS.is("tape stays at 20", x.tapeLength(), 20);
        CHECKS.is("truncate(0)", x.truncate(0), 20);
        CHECKS.is("truncate(7)", x.truncate(7), 13);
        CHECKS.is("truncate(13)", x.truncate(13), 0);
        // The last bytes go, the first ones stay.
        Villages.put(x, NUMBERS + TWO + "person");
        x.truncate(6);
        CHECKS.is("load behind truncate", x.load(), 2);
    }

    private static void loadReplacesAll() {
        StickVotes x = Villages.port();
        x.open(2);
        x.close();
        x.open(2);
        x.lay(4, 4, 0);
        x.contest(3, 4);
        x.give(2, 3, 1);
        x.lay(3, 2, 0);
        CHECKS.is("a wrong stick ahead of load", x.stick(2, 5), 1);
        x.sail(0, 5);
        x.pass(2);
        x.keep(0);
        x.keep(1);
        Villages.put(x, Villages.PORT);
        CHECKS.is("load()", x.load(), 5);
        CHECKS.is("state behind load", Villages.everything(x), Villages.everything(Villages.port()));
        CHECKS.is("restore(0) behind load", x.restore(0), -2);
        CHECKS.is("restore(1) behind load", x.restore(1), -2);
        CHECKS.is("undo() behind load", x.undo(), -1);
        CHECKS.is("past(0, 0) behind load", x.past(0, 0), -2);
        CHECKS.is("tape behind load", x.tapeLength(), 0);
        CHECKS.is("open(2) behind load", x.open(2), 0);
        CHECKS.is("boat of cid", x.person(2, 0), 1);
        CHECKS.is("boat of dan", x.person(3, 0), -2);
    }

    private static void loadOnAnError() {
        StickVotes x = laidInPort();
        loadOnePerson(x);
        String behind = Villages.everything(new Again(50, () -> {
            StickVotes v = laidInPort();
            loadOnePerson(v);
            return v;
        }));
        String before = Villages.everything(new Again(50, SetupTest::laidInPort));
        CHECKS.is("state behind an error", behind, before);
        CHECKS.is("tape behind an error", x.tapeLength(), 0);
        CHECKS.is("restore(1) behind an error", x.restore(1), 0);
        CHECKS.is("undo() behind an error", x.undo(), 2);
        CHECKS.is("undo() behind an error", x.undo(), 1);
        CHECKS.is("load() of nothing", new StickVotes().load(), -1);
    }

    private static StickVotes laidInPort() {
        StickVotes x = Villages.port();
        x.open(3);
        x.lay(0, 0, 1);
        x.keep(1);
        return x;
    }

    private static void loadOnePerson(StickVotes x) {
        Villages.put(x, Villages.numbers(20, "0 0 0 0", 0, 1, 0, 0, 0) + "boat cod;person zoe;");
        CHECKS.is("load() with one person", x.load(), -1);
    }

    private static void loadReadsTokensGreedily() {
        StickVotes x = Villages.of(" \n season010shares 000 40\n60 100less01least 2carry1appeal 3"
            + " recounts\n1 ;boat ami ; person\nann of ami;person of1;".replace("of1", "oof")
            + "person ami ;\n ");
        CHECKS.is("setup of loose tokens", Villages.setup(x), "season 10 shares 0 40 60 100 "
            + "less 1 least 2 carry 1 appeal 3 recounts 1;"
            + "boat ami;person ann of ami;person oof;person ami;");
        checkLoad("INTs that run together", NUMBERS.replace(" ", "") + TWO, 14);
        checkLoad("space ahead of semicolons", (NUMBERS + TWO).replace(";", " \n;\n "), -2);
        checkLoad("a keyword's beginning is a NAME", NUMBERS + "person sea;person bo;", -2);
    }

    private static void loadTakesTheGreatestVillage() {
        StringBuilder text = new StringBuilder(Villages.numbers(100, "100 0 100 0", 9, 20, 9, 30, 3));
        for (char c = 'a'; c < 'g'; c++) text.append("boat zzzzz").append(c).append(';');
        for (char c = 'a'; c < 'u'; c++) text.append("person xyzxy").append(c).append(" of zzzzzf;");
        StickVotes x = Villages.of(text.toString());
        String setup = Villages.setup(new Again(50, () -> Villages.of(text.toString())));
        CHECKS.is("greatest village", setup, text.toString());
        CHECKS.is("its people", x.value(2), 20);
        CHECKS.is("its boats", x.value(3), 6);
        CHECKS.is("sail with 20", x.sail(5, 99), 20);
        CHECKS.is("its last person", x.named(Villages.letters("xyzxyt"), false), 19);
        checkLoad("least village", Villages.numbers(1, "0 0 0 0", 0, 1, 0, 0, 0) + TWO, -2);
    }

    private static void errorPosition() {
        StickVotes x = new StickVotes();
        Villages.put(x, "season;");
        CHECKS.is("errorPosition() ahead of load", x.errorPosition(), -2);
        x.load();
        CHECKS.is("errorPosition()", x.errorPosition(), 6);
        x.pass(1);
        x.undo();
        CHECKS.is("errorPosition() behind undo", x.errorPosition(), 6);
        x.load();
        CHECKS.is("errorPosition() of an empty tape", x.errorPosition(), 0);
        Villages.put(x, NUMBERS + TWO);
        CHECKS.is("errorPosition() ahead of the next load", x.errorPosition(), 0);
        x.load();
        CHECKS.is("errorPosition() behind success", x.errorPosition(), -2);
    }

    private static void errorsInNumbers() {
        String[] starts = {"season ", "shares ", "less ", "least ", "carry ", "appeal ", "recounts "};
        String[] low = {"0", "0", "0", "0", "0", "0", "0"};
        String[] high = {"101", "101", "10", "21", "10", "31", "4"};
        String[] most = {"100", "100", "9", "20", "9", "30", "3"};
        int[] numbers = {0, 1, 5, 6, 7, 8, 9};
        for (int i = 0; i < starts.length; i++) {
            int at = NUMBERS.indexOf(starts[i]) + starts[i].length();
            int end = at;
            while (Character.isDigit(NUMBERS.charAt(end))) end++;
            String head = NUMBERS.substring(0, at);
            String tail = NUMBERS.substring(end) + TWO;
            boolean isZeroWrong = i == 0 || i == 3;
            checkLoad(starts[i] + "0", head + low[i] + tail, isZeroWrong ? at : -2);
            checkLoad(starts[i] + high[i], head + high[i] + tail, at);
            checkLoad(starts[i] + "1000", head + "1000" + tail, at);
            checkLoad(starts[i] + "0001", head + "0001" + tail, at);
            checkLoad(starts[i] + "x", head + "x" + tail, at);
            checkLoad(starts[i] + ";", head + ";" + tail, at);
            checkLoad(starts[i] + "missing", head + tail, nextOtherToken(head + tail, at));
            StickVotes x = Villages.of(head + most[i] + tail);
            CHECKS.is("most " + starts[i], x.number(numbers[i]), Integer.parseInt(most[i]));
            checkLoad("end behind " + starts[i], head, head.length());
            checkLoad("another word for " + starts[i],
                NUMBERS.substring(0, at - starts[i].length()) + "person " + NUMBERS.substring(at),
                at - starts[i].length());
        }
        String last = NUMBERS.replace("60 100", "60 101") + TWO;
        checkLoad("a fourth SHARE of 101", last, last.indexOf("101"));
        checkLoad("five SHAREs", NUMBERS.replace("60 100", "60 100 7") + TWO, last.indexOf("101") + 4);
        checkLoad("no semicolon", NUMBERS.replace(";", "") + TWO, NUMBERS.length() - 1);
    }

    private static void errorsInBoatsAndPeople() {
        int at = NUMBERS.length();
        checkLoad("only numbers", NUMBERS, at);
        checkLoad("only numbers and space", NUMBERS + " \n", at + 2);
        checkLoad("one person", NUMBERS + "person a;", at + 9);
        checkLoad("one person and space", NUMBERS + "person a;  ", at + 11);
        checkLoad("boats alone", NUMBERS + "boat a;", at + 7);
        checkLoad("a boat's NAME again", NUMBERS + "boat a;boat a;" + TWO, at + 12);
        checkLoad("a person's NAME again", NUMBERS + TWO + "person a;", at + 25);
        checkLoad("a boat's NAME for a person", NUMBERS + "boat a;" + TWO, -2);
        String[] keywords = {"season", "shares", "less", "least", "carry", "appeal", "recounts",
            "boat", "person", "of"};
        for (String word : keywords) {
            checkLoad("a boat's NAME " + word, NUMBERS + "boat " + word + ";" + TWO, at + 5);
            checkLoad("a person's NAME " + word, NUMBERS + TWO + "person " + word + ";", at + 25);
        }
        checkLoad("an unknown boat", NUMBERS + "boat a;person a of b;person b;", at + 19);
        checkLoad("of without boats", NUMBERS + "person a of a;person b;", at + 12);
        checkLoad("a keyword behind of", NUMBERS + "boat a;person a of boat;", at + 19);
        checkLoad("nothing behind of", NUMBERS + "boat a;person a of;", at + 18);
        checkLoad("an INT for a NAME", NUMBERS + "boat 1;" + TWO, at + 5);
        checkLoad("a keyword for a boat's NAME", NUMBERS + "boat of;" + TWO, at + 5);
        checkLoad("a keyword for a person's NAME", NUMBERS + "person less;" + TWO, at + 7);
        checkLoad("a boat behind people", NUMBERS + TWO + "boat a;", at + 18);
        checkLoad("a boat behind a person", NUMBERS + "person a;boat a;person b;", at + 9);
        checkLoad("no semicolon behind a boat", NUMBERS + "boat a boat b;" + TWO, at + 7);
        checkLoad("no semicolon behind a person", NUMBERS + "person a person b;", at + 9);
        checkLoad("end behind a NAME", NUMBERS + "person a;person b", at + 17);
        checkLoad("end behind person", NUMBERS + TWO + "person", at + 24);
        checkLoad("two semicolons", NUMBERS + TWO + ";", at + 18);
        checkLoad("a stray NAME", NUMBERS + TWO + "b;", at + 18);
        StringBuilder boats = new StringBuilder(NUMBERS);
        for (char c = 'a'; c < 'g'; c++) boats.append("boat ").append(c).append(';');
        checkLoad("six boats", boats + TWO, -2);
        checkLoad("a seventh boat", boats + "boat a;" + TWO, boats.length());
        StringBuilder people = new StringBuilder(NUMBERS);
        for (char c = 'a'; c < 'u'; c++) people.append("person ").append(c).append(';');
        checkLoad("twenty people", people + "\n", -2);
        checkLoad("a 21st person", people + " person a;", people.length() + 1);
        checkLoad("a boat behind twenty people", people + "boat a;", people.length());
    }

    private static void errorsInTokens() {
        int at = NUMBERS.length();
        checkLoad("a NAME of seven letters", NUMBERS + "person abcdefg;person b;", at + 7);
        checkLoad("a NAME of six letters", NUMBERS + "person abcdef;person b;", -2);
        checkLoad("a NAME that goes on with digits", NUMBERS + "person ab1;person b;", at + 9);
        checkLoad("a capital letter", NUMBERS + "person A;person b;", at + 7);
        checkLoad("a capital letter in a NAME", NUMBERS + "person aB;person b;", at + 8);
        checkLoad("a tabulator", NUMBERS + "\t" + TWO, at);
        checkLoad("a carriage return", NUMBERS + TWO + "\r", at + 18);
        checkLoad("a byte 0", NUMBERS + TWO + (char) 0, at + 18);
        checkLoad("a byte 255", NUMBERS + TWO + " " + (char) 255, at + 19);
        checkLoad("a backquote", NUMBERS + "person `;", at + 7);
        checkLoad("a brace", NUMBERS + "person {;", at + 7);
        checkLoad("a slash", "season /;", 7);
        checkLoad("a colon", "season :;", 7);
        checkLoad("a minus sign", "season -1", 7);
        checkLoad("a keyword that goes on", "seasons 10", 0);
        checkLoad("a short keyword", "seaso 10", 0);
        checkLoad("a keyword but for its first letter", "xeason 10", 0);
        checkLoad("a keyword but for its last letter", "seasom 10", 0);
        checkLoad("keywords together", "season 10sharesless", 9);
    }

    private static void checkLoad(String what, String text, int due) {
        StickVotes x = new StickVotes();
        Villages.put(x, text);
        int people = x.load();
        CHECKS.is("error position: " + what, x.errorPosition(), due);
        CHECKS.is("load: " + what, people < 0, due >= 0);
        if (due >= 0) CHECKS.is("value(2) behind the error: " + what, x.value(2), 2);
    }

    /** Where a missing INT is noticed; of the SHAREs, the others stand in for it. */
    private static int nextOtherToken(String text, int from) {
        int at = from;
        while (text.charAt(at) == ' ' || Character.isDigit(text.charAt(at))) at++;
        return at;
    }

    private static void number() {
        StickVotes x = Villages.of(Villages.numbers(7, "11 22 33 44", 5, 6, 8, 9, 2) + TWO);
        int[] due = {7, 11, 22, 33, 44, 5, 6, 8, 9, 2};
        for (int what = 0; what < due.length; what++) {
            CHECKS.is("number(" + what + ")", x.number(what), due[what]);
        }
        CHECKS.is("number(-1)", x.number(-1), -1);
        CHECKS.is("number(10)", x.number(10), -1);
        CHECKS.is("number(MAX)", x.number(Integer.MAX_VALUE), -1);
        CHECKS.is("number(MIN)", x.number(Integer.MIN_VALUE), -1);
    }

    private static void named() {
        StickVotes x = Villages.of(NUMBERS + "boat zander;boat a;person a;person zander;person ab;");
        CHECKS.is("boat zander", x.named(Villages.letters("zander"), true), 0);
        CHECKS.is("boat a", x.named(Villages.letters("a"), true), 1);
        CHECKS.is("boat ab", x.named(Villages.letters("ab"), true), -2);
        CHECKS.is("person a", x.named(Villages.letters("a"), false), 0);
        CHECKS.is("person zander", x.named(Villages.letters("zander"), false), 1);
        CHECKS.is("person ab", x.named(Villages.letters("ab"), false), 2);
        CHECKS.is("person zande", x.named(Villages.letters("zande"), false), -2);
        CHECKS.is("person aaaaaa", x.named(Villages.letters("aaaaaa"), false), -2);
        CHECKS.is("person zzzzzz", x.named(Villages.letters("zzzzzz"), false), -2);
        CHECKS.is("a keyword", x.named(Villages.letters("boat"), true), -2);
        int[] wrong = {0, -1, Integer.MIN_VALUE, Integer.MAX_VALUE, 1 << 30, 1 << 30 | 1 << 25,
            27 << 25, 31 << 25, 1 << 25 | 27 << 20, 1 << 25 | 1 << 15, 1, 1 << 20, 26,
            1 << 25 | 1, 1 << 25 | 2 << 20 | 31, Integer.MIN_VALUE | 1 << 25,
            1 << 25 | 1 << 20 | 1 << 15 | 1 << 10 | 1 << 5 | 27};
        for (int letters : wrong) {
            CHECKS.is("named(" + letters + ", true)", x.named(letters, true), -1);
            CHECKS.is("named(" + letters + ", false)", x.named(letters, false), -1);
        }
        StickVotes fresh = new StickVotes();
        CHECKS.is("b in the first village", fresh.named(Villages.letters("b"), false), 1);
        CHECKS.is("a boat in the first village", fresh.named(Villages.letters("a"), true), -2);
    }

    private static void setupText() {
        StickVotes x = Villages.port();
        CHECKS.is("setup 50", Villages.setup(x), Villages.PORT);
        CHECKS.is("setupLength()", x.setupLength(), Villages.PORT.length());
        x.join(0, 1);
        x.join(1, -2);
        x.join(4, 0);
        String due = Villages.PORT.replace("ann of ami", "ann of bee").replace("bob of ami", "bob")
            .replace("eve", "eve of ami");
        CHECKS.is("setup behind join", Villages.setup(x), due);
        CHECKS.is("setupLength() behind join", x.setupLength(), due.length());
        CHECKS.is("setupByte(-1)", x.setupByte(-1), -1);
        CHECKS.is("setupByte(MIN)", x.setupByte(Integer.MIN_VALUE), -1);
        CHECKS.is("setupByte(0)", x.setupByte(0), 's');
        CHECKS.is("setupByte(last)", x.setupByte(due.length() - 1), ';');
        CHECKS.is("setupByte(length)", x.setupByte(due.length()), -2);
        CHECKS.is("setupByte(MAX)", x.setupByte(Integer.MAX_VALUE), -2);
        StickVotes y = Villages.port();
        y.join(0, 1);
        y.undo();
        CHECKS.is("setup behind undo", Villages.setup(y), Villages.PORT);
        Villages.put(y, "person");
        y.load();
        CHECKS.is("setup behind a load that failed", Villages.setup(y), Villages.PORT);
    }

    private static void tapeLength() {
        StickVotes x = new StickVotes();
        CHECKS.is("tapeLength() at first", x.tapeLength(), 0);
        x.append(1, 2, 3, 4, 5);
        CHECKS.is("tapeLength() behind append", x.tapeLength(), 20);
        x.truncate(3);
        CHECKS.is("tapeLength() behind truncate", x.tapeLength(), 17);
        x.pass(1);
        x.keep(0);
        x.undo();
        x.restore(0);
        CHECKS.is("tapeLength() behind undo and restore", x.tapeLength(), 17);
        x.load();
        CHECKS.is("tapeLength() behind load", x.tapeLength(), 0);
    }
}
