/**
 * The sentences of DOC.md that name a boundary: the setup text (section 7), the numbers of section 1,
 * and promises 1 to 5, 26, 29 and 50 to 52.
 */
public final class BoundsSetupTest {
    private static final Checks CHECKS = new Checks("BoundsSetupTest");
    private static final String NUMBERS = Villages.numbers(10, "50 40 60 100", 1, 2, 1, 3, 1);
    private static final String TWO = "person a;person b;";
    private static final int AT = NUMBERS.length();
    private static final String[] KEYWORDS = {"season", "shares", "less", "least", "carry", "appeal",
        "recounts", "boat", "person", "of"};

    private BoundsSetupTest() {
    }

    public static void main(String[] args) {
        constants();
        callsOfAnObject();
        newObject();
        append();
        appendBeyond();
        truncate();
        load();
        loadOnAnError();
        errorPosition();
        whiteSpace();
        words();
        ints();
        otherTokens();
        grammar();
        boatsAndPeople();
        errorPositions();
        numbersOfTheVillage();
        standNot();
        number();
        named();
        namedInvalid();
        setupLength();
        setupByte();
        tapeLength();
        CHECKS.end();
    }

    /** Loads a text on a new object; due is the error position, -2 if the text has to be taken. */
    private static void loads(String what, String text, int due) {
        StickVotes x = new StickVotes();
        Villages.put(x, text);
        int answer = x.load();
        CHECKS.is("load() of " + what + " (below 0 or not)", answer < 0 ? -1 : 0, due == -2 ? 0 : -1);
        CHECKS.is("errorPosition() of " + what, x.errorPosition(), due);
    }

    private static void constants() {
        CHECKS.holds("Section 8", "The constants: `INVALID = -1`: Result of a call with an invalid argument.",
            () -> CHECKS.is("INVALID", StickVotes.INVALID, -1));
        CHECKS.holds("Section 8", "`NOT_FOUND = -2`: Result of a call that finds nothing or is not possible.",
            () -> CHECKS.is("NOT_FOUND", StickVotes.NOT_FOUND, -2));
        CHECKS.holds("Section 8", "`AT_SEA = -3`: A person who has to be ashore is at sea.",
            () -> CHECKS.is("AT_SEA", StickVotes.AT_SEA, -3));
        CHECKS.holds("Section 8", "`NOT_THERE = -4`: The stick (or boat) is not where it has to be.",
            () -> CHECKS.is("NOT_THERE", StickVotes.NOT_THERE, -4));
        CHECKS.holds("Section 8", "`TOO_LATE = -5`: There is no vote in which this can be done (any more).",
            () -> CHECKS.is("TOO_LATE", StickVotes.TOO_LATE, -5));
    }

    private static void callsOfAnObject() {
        String words = "An object is used for at most 512 calls after it has been made";
        CHECKS.holds("What it is", words, () -> {
            StickVotes x = new StickVotes();
            for (int i = 1; i <= 511; i++) x.pass(99);
            CHECKS.is("value(0) as the 512th call", x.value(0), 511 * 99);
        });
        CHECKS.holds("What it is", words, () -> {
            StickVotes x = new StickVotes();
            for (int i = 0; i <= 510; i++) CHECKS.is("open or close", i % 2 == 0 ? x.open(4) : x.close(), i % 2 == 0 ? i / 2 : 0);
            CHECKS.is("value(13) as the 512th call", x.value(13), 256);
        });
        CHECKS.holds("What it is", words, () -> {
            StickVotes x = Villages.of(NUMBERS + "boat c;person a of c;person b;");
            x.sail(0, 99);
            for (int i = 2; i <= 490; i++) CHECKS.is("delay(0, 99)", x.delay(0, 99), 99 * i);
            CHECKS.is("BACK", x.boat(0, 1), 490 * 99);
            CHECKS.is("home day", x.person(0, 2), 490 * 99);
            CHECKS.is("log of the sailing", x.log(0, 3), 99);
        });
    }

    private static void newObject() {
        CHECKS.holds("Promise 1", "Creates a village with the people a and b, who belong to no boat, without boats", () -> {
            StickVotes x = new StickVotes();
            CHECKS.is("people", x.value(2), 2);
            CHECKS.is("boats", x.value(3), 0);
            CHECKS.is("named a", x.named(Villages.letters("a"), false), 0);
            CHECKS.is("named b", x.named(Villages.letters("b"), false), 1);
            CHECKS.is("named c", x.named(Villages.letters("c"), false), -2);
            CHECKS.is("person(0, 0)", x.person(0, 0), -2);
            CHECKS.is("person(1, 0)", x.person(1, 0), -2);
            CHECKS.is("person(2, 0)", x.person(2, 0), -1);
            CHECKS.is("boat(0, 0)", x.boat(0, 0), -1);
            CHECKS.is("sail(0, 1)", x.sail(0, 1), -1);
            CHECKS.is("join(0, 0)", x.join(0, 0), -1);
        });
        CHECKS.holds("Promise 1", "with LONG 90, SHAREs of 50, LESS 1, LEAST 1, CARRY 1, APPEAL 3, RECOUNTS 1", () -> {
            StickVotes x = new StickVotes();
            int[] due = {90, 50, 50, 50, 50, 1, 1, 1, 3, 1};
            for (int what = 0; what < due.length; what++) CHECKS.is("number " + what, x.number(what), due[what]);
        });
        CHECKS.holds("Promise 1", "on the DAY 0, without a vote", () -> {
            StickVotes x = new StickVotes();
            CHECKS.is("DAY", x.value(0), 0);
            CHECKS.is("state", x.value(8), 0);
            CHECKS.is("votes", x.value(13), 0);
            CHECKS.is("past(0, 0)", x.past(0, 0), -2);
            CHECKS.is("close()", x.close(), -5);
            CHECKS.is("open(2)", x.open(2), 0);
        });
        CHECKS.holds("Promise 1", "with an empty log, empty slots and an empty tape.", () -> {
            StickVotes x = new StickVotes();
            CHECKS.is("entries", x.value(14), 0);
            CHECKS.is("log(0, 0)", x.log(0, 0), -2);
            CHECKS.is("restore(0)", x.restore(0), -2);
            CHECKS.is("restore(1)", x.restore(1), -2);
            CHECKS.is("tapeLength()", x.tapeLength(), 0);
            CHECKS.is("undo()", x.undo(), -1);
        });
    }

    private static void append() {
        CHECKS.holds("Promise 2", "Appends twenty bytes to the tape: the four bytes of a, most significant byte first, then those of b, c, d and e.", () -> {
            StickVotes x = new StickVotes();
            // "season 1 shares 0 1 2 3 less 4 least 5 carry 6 appeal 7 recounts 2;person a;person b;   "
            x.append(0x73656173, 0x6f6e2031, 0x20736861, 0x72657320, 0x30203120);
            x.append(0x32203320, 0x6c657373, 0x2034206c, 0x65617374, 0x20352063);
            x.append(0x61727279, 0x20362061, 0x70706561, 0x6c203720, 0x7265636f);
            x.append(0x756e7473, 0x20323b70, 0x6572736f, 0x6e20613b, 0x70657273);
            x.append(0x6f6e2062, 0x3b202020, 0x20202020, 0x20202020, 0x20202020);
            CHECKS.is("load()", x.load(), 2);
            CHECKS.is("setup", Villages.setup(x), "season 1 shares 0 1 2 3 less 4 least 5 carry 6 appeal 7 recounts 2;" + TWO);
        });
        CHECKS.holds("Promise 2", "the four bytes of a, most significant byte first", () -> {
            int[][] rows = {{0xff202020, 0}, {0x20802020, 1}, {0x2020f320, 2}, {0x202020e1, 3}, {0x20202000, 3}};
            for (int[] row : rows) {
                StickVotes x = new StickVotes();
                x.append(row[0], -1, -1, -1, -1);
                x.load();
                CHECKS.is("first byte that is no space", x.errorPosition(), row[1]);
                StickVotes y = new StickVotes();
                y.append(0x20202020, 0x20202020, 0x20202020, 0x20202020, row[0]);
                y.load();
                CHECKS.is("the same in e", y.errorPosition(), 16 + row[1]);
            }
        });
        CHECKS.holds("Promise 2", "Returns the new length of the tape", () -> {
            StickVotes x = new StickVotes();
            for (int i = 1; i <= 40; i++) CHECKS.is("append() " + i, x.append(i, -i, 0, 1, 2), 20 * i);
            StickVotes y = new StickVotes();
            y.append(0, 0, 0, 0, 0);
            y.truncate(19);
            CHECKS.is("append() on one byte", y.append(0, 0, 0, 0, 0), 21);
        });
    }

    private static StickVotes withTape(int length) {
        StickVotes x = new StickVotes();
        Villages.put(x, NUMBERS + TWO + " ".repeat(length - AT - TWO.length()));
        return x;
    }

    private static void appendBeyond() {
        String words = "INVALID if it would exceed 800 bytes (nothing is appended).";
        CHECKS.holds("Promise 2", words, () -> {
            StickVotes x = withTape(780);
            CHECKS.is("append() from 780", x.append(0x20202020, 0x20202020, 0x20202020, 0x20202020, 0x20202020), 800);
            CHECKS.is("tapeLength()", x.tapeLength(), 800);
            CHECKS.is("load()", x.load(), 2);
        });
        CHECKS.holds("Promise 2", words, () -> {
            int[] lengths = {781, 782, 799, 800};
            for (int length : lengths) {
                StickVotes x = withTape(length);
                CHECKS.is("append() from " + length, x.append(-1, -1, -1, -1, -1), -1);
                CHECKS.is("tapeLength() from " + length, x.tapeLength(), length);
                CHECKS.is("load() from " + length, x.load(), 2);
                CHECKS.is("append() behind it", x.append(-1, -1, -1, -1, -1), 20);
            }
        });
        CHECKS.holds("Promise 2", words, () -> {
            Twins.refused(CHECKS, "append() from 781", () -> withTape(781), x -> x.append(9, 9, 9, 9, 9), -1);
            Twins.refused(CHECKS, "append() from 800", () -> withTape(800), x -> x.append(9, 9, 9, 9, 9), -1);
        });
    }

    private static void truncate() {
        CHECKS.holds("Promise 3", "Removes the last bytes of the tape.", () -> {
            StickVotes x = new StickVotes();
            Villages.put(x, NUMBERS + TWO + "!?");
            CHECKS.is("truncate(2)", x.truncate(2), AT + 18);
            CHECKS.is("load()", x.load(), 2);
        });
        CHECKS.holds("Promise 3", "`n`: number of bytes, 0 to the length of the tape", () -> {
            StickVotes x = new StickVotes();
            CHECKS.is("truncate(0) of 0", x.truncate(0), 0);
            x.append(1, 2, 3, 4, 5);
            CHECKS.is("truncate(0) of 20", x.truncate(0), 20);
            CHECKS.is("truncate(1) of 20", x.truncate(1), 19);
            CHECKS.is("truncate(19) of 19", x.truncate(19), 0);
            StickVotes y = withTape(800);
            CHECKS.is("truncate(800) of 800", y.truncate(800), 0);
            CHECKS.is("tapeLength()", y.tapeLength(), 0);
        });
        CHECKS.holds("Promise 3", "Returns the new length of the tape", () -> {
            StickVotes x = withTape(800);
            for (int left = 799; left >= 400; left--) CHECKS.is("truncate(1)", x.truncate(1), left);
        });
        CHECKS.holds("Promise 3", "INVALID if n is out of range.", () -> {
            Twins.refused(CHECKS, "truncate(1) of 0", StickVotes::new, x -> x.truncate(1), -1);
            Twins.refused(CHECKS, "truncate(-1) of 0", StickVotes::new, x -> x.truncate(-1), -1);
            int[] wrong = {-1, -100, 101, 801, Integer.MIN_VALUE, Integer.MAX_VALUE};
            for (int n : wrong) {
                Twins.refused(CHECKS, "truncate(" + n + ") of 100", () -> withTape(100), x -> x.truncate(n), -1);
            }
            Twins.refused(CHECKS, "truncate(801) of 800", () -> withTape(800), x -> x.truncate(801), -1);
            StickVotes x = withTape(100);
            x.truncate(101);
            CHECKS.is("tapeLength() behind it", x.tapeLength(), 100);
        });
    }

    /** Has votes, faults, boats out, a log, both slots, undo steps, and an error of a load. */
    private static StickVotes busy() {
        StickVotes x = Villages.port();
        Villages.put(x, "season x");
        x.load();
        x.open(2);
        x.lay(4, 4, 0);
        x.contest(3, 4);
        x.give(2, 3, 1);
        x.lay(3, 2, 0);
        x.close();
        x.keep(0);
        x.sail(0, 5);
        x.pass(2);
        x.keep(1);
        x.open(3);
        x.lay(3, 3, 2);
        return x;
    }

    private static void load() {
        CHECKS.holds("Promise 4", "The tape is empty afterwards.", () -> {
            StickVotes x = withTape(800);
            x.load();
            CHECKS.is("tapeLength() behind success", x.tapeLength(), 0);
            CHECKS.is("load() of what is left", x.load(), -1);
            CHECKS.is("errorPosition() of what is left", x.errorPosition(), 0);
            Villages.put(x, "person");
            x.load();
            CHECKS.is("tapeLength() behind an error", x.tapeLength(), 0);
            x.load();
            CHECKS.is("errorPosition() of what is left", x.errorPosition(), 0);
        });
        CHECKS.holds("Promise 4", "On success everything is replaced, DAY is 0, there is no vote, nobody has a fault, the log and the slots are empty, and nothing can be undone.", () -> {
            StickVotes x = busy();
            Villages.put(x, Villages.PORT);
            CHECKS.is("load()", x.load(), 5);
            Twins.alike(CHECKS, "behind load()", x, Villages.port());
        });
        CHECKS.holds("Promise 4", "there is no vote, nobody has a fault, the log and the slots are empty", () -> {
            for (int turn = 0; turn < 4; turn++) {
                StickVotes x = Villages.port();
                x.give(0, 3, 1);
                x.open(4);
                x.lay(3, 0, 3);
                if (turn > 0) x.contest(4, 0);
                if (turn > 1) x.close();
                if (turn > 2) x.recount();
                x.pass(2);
                Villages.put(x, Villages.PORT);
                x.load();
                for (int vote = 0; vote < 2; vote++) {
                    for (int what = 0; what < 4; what++) CHECKS.is("past(" + vote + ", " + what + ")", x.past(vote, what), -2);
                }
                Twins.alike(CHECKS, "behind load() of a village with a wrong stick, " + turn, x, Villages.port());
            }
        });
        CHECKS.holds("Promise 4", "On success everything is replaced", () -> {
            StickVotes x = Villages.crowd(NUMBERS, 20, 6, p -> 5);
            x.sail(5, 9);
            Villages.put(x, Villages.numbers(1, "0 0 0 0", 0, 1, 0, 0, 0) + TWO);
            CHECKS.is("load()", x.load(), 2);
            CHECKS.is("boats", x.value(3), 0);
            CHECKS.is("boats that are out", x.value(4), 0);
            CHECKS.is("people at sea", x.value(5), 0);
            CHECKS.is("people ashore", x.value(15), 2);
            CHECKS.is("person(2, 0)", x.person(2, 0), -1);
            CHECKS.is("boat(0, 0)", x.boat(0, 0), -1);
            CHECKS.is("named pa", x.named(Villages.letters("pa"), false), -2);
            CHECKS.is("named ba", x.named(Villages.letters("ba"), true), -2);
            CHECKS.is("number(9)", x.number(9), 0);
        });
        CHECKS.holds("Promise 4", "Returns the number of people", () -> {
            for (int people = 2; people <= 20; people++) {
                StickVotes x = new StickVotes();
                Villages.put(x, Villages.crowdText(NUMBERS, people, 1, p -> 0));
                CHECKS.is("load() of " + people, x.load(), people);
                CHECKS.is("value(2)", x.value(2), people);
            }
        });
    }

    private static void loadOnAnError() {
        String words = "On an error everything but the tape and the error position stays.";
        String[] texts = {"season x", "season 20 s", NUMBERS, NUMBERS + "boat cod;person zoe;",
            NUMBERS.replace("10", "99") + "boat cod;boat cod;", NUMBERS + TWO + "person zoe of ami;"};
        for (String text : texts) {
            CHECKS.holds("Promise 4", words, () -> {
                StickVotes x = busy();
                Villages.put(x, text);
                CHECKS.is("load()", x.load(), -1);
                // The error position of the twin is made the same by a load of "season x".
                Villages.put(x, "season x");
                x.load();
                Twins.alike(CHECKS, "behind an error", x, busy());
            });
        }
        CHECKS.holds("Promise 4", words, () -> {
            StickVotes x = Villages.port();
            Villages.put(x, Villages.numbers(1, "0 0 0 0", 0, 1, 0, 0, 0) + TWO + "person b;");
            CHECKS.is("load()", x.load(), -1);
            CHECKS.is("setup behind an error", Villages.setup(x), Villages.PORT);
        });
        CHECKS.holds("Promise 4", "INVALID on an error.", () -> {
            StickVotes x = new StickVotes();
            CHECKS.is("load() of an empty tape", x.load(), -1);
            Villages.put(x, " \n");
            CHECKS.is("load() of white space", x.load(), -1);
            Villages.put(x, NUMBERS + TWO);
            CHECKS.is("load()", x.load(), 2);
            CHECKS.is("load() of an empty tape", x.load(), -1);
            CHECKS.is("people behind it", x.value(2), 2);
        });
    }

    private static void errorPosition() {
        CHECKS.holds("Promise 5", "NOT_FOUND if that load succeeded or there was no load.", () -> {
            StickVotes x = new StickVotes();
            CHECKS.is("errorPosition() without a load", x.errorPosition(), -2);
            Villages.put(x, NUMBERS + TWO);
            CHECKS.is("errorPosition() ahead of a load", x.errorPosition(), -2);
            x.load();
            CHECKS.is("errorPosition() behind success", x.errorPosition(), -2);
            Villages.put(x, "season 0");
            x.load();
            CHECKS.is("errorPosition() behind an error", x.errorPosition(), 7);
            Villages.put(x, NUMBERS + TWO);
            CHECKS.is("errorPosition() ahead of the next load", x.errorPosition(), 7);
            x.load();
            CHECKS.is("errorPosition() behind success again", x.errorPosition(), -2);
        });
        CHECKS.holds("Promise 5", "Returns the error position of the latest load.", () -> {
            StickVotes x = new StickVotes();
            x.load();
            CHECKS.is("errorPosition() of an empty tape", x.errorPosition(), 0);
            Villages.put(x, " ".repeat(800));
            x.load();
            CHECKS.is("errorPosition() of 800 spaces", x.errorPosition(), 800);
            Villages.put(x, " ".repeat(799) + "!");
            x.load();
            CHECKS.is("errorPosition() in the 800th byte", x.errorPosition(), 799);
            Villages.put(x, "!");
            x.load();
            CHECKS.is("errorPosition() in the first byte", x.errorPosition(), 0);
        });
    }

    private static void whiteSpace() {
        CHECKS.holds("Section 7", "White space (bytes 32 and 10) may stand ahead of the first token, between any two tokens and behind the last one.", () -> {
            loads("space everywhere", "  \n" + (NUMBERS + TWO).replace(" ", " \n ").replace(";", "\n; ") + " \n", -2);
            loads("a space ahead", " " + NUMBERS + TWO, -2);
            loads("a line feed ahead", "\n" + NUMBERS + TWO, -2);
            loads("a space behind", NUMBERS + TWO + " ", -2);
            loads("a line feed behind", NUMBERS + TWO + "\n", -2);
            loads("no space that is not needed", (NUMBERS + TWO).replace("; ", ";"), -2);
            loads("800 bytes", NUMBERS + TWO + " ".repeat(800 - AT - 18), -2);
        });
        CHECKS.holds("Section 7", "White space (bytes 32 and 10)", () -> {
            for (int sign = 0; sign < 256; sign++) {
                boolean isSpace = sign == 32 || sign == 10;
                boolean isNumber = sign == '0';
                boolean isLetter = sign >= 'a' && sign <= 'z';
                loads("byte " + sign + " behind season", "season" + (char) sign + NUMBERS.substring(7) + TWO,
                    isSpace || isNumber ? -2 : isLetter ? 0 : 6);
                loads("byte " + sign + " behind all", NUMBERS + TWO + (char) sign, isSpace ? -2 : AT + 18);
                loads("byte " + sign + " ahead of all", (char) sign + NUMBERS + TWO, isSpace ? -2 : 0);
            }
        });
    }

    private static void words() {
        CHECKS.holds("Section 7", "Tokens are formed greedily.", () -> {
            loads("two keywords as one word", "season 10sharesless", 9);
            loads("INTs and words side by side", "season10shares50 40 60 100less1least2carry1appeal3recounts1;person a;person b;", -2);
            loads("INTs that are one", NUMBERS.replace("50 40", "5040") + TWO, NUMBERS.indexOf("50"));
            loads("a NAME that is one with of", NUMBERS + "boat c;person aof c;person b;", AT + 18);
        });
        CHECKS.holds("Section 7", "A maximal run of the letters a to z is a word", () -> {
            loads("letters a and z", NUMBERS + "person a;person z;person azaz;", -2);
            loads("a byte ahead of a", NUMBERS + "person `;", AT + 7);
            loads("a byte behind z", NUMBERS + "person {;", AT + 7);
            loads("a byte ahead of a in a word", NUMBERS + "person x`;", AT + 8);
            loads("a byte behind z in a word", NUMBERS + "person x{;", AT + 8);
            loads("a letter A", NUMBERS + "person A;", AT + 7);
            loads("a letter Z in a word", NUMBERS + "person xZ;", AT + 8);
        });
        CHECKS.holds("Section 7", "any other one of 1 to 6 letters is a NAME", () -> {
            String[] names = {"x", "xy", "xyz", "xyzx", "xyzxy", "xyzxyz", "zzzzzz", "aaaaaa"};
            for (String name : names) {
                loads("person " + name, NUMBERS + TWO + "person " + name + ";", -2);
                loads("boat " + name, NUMBERS + "boat " + name + ";person a of " + name + ";person b;", -2);
            }
            String[] words = {"xyzxyzx", "aaaaaaa", "xyzxyzxyzxyzxyz", "recount" + "er", "seasons"};
            for (String word : words) {
                loads("person " + word, NUMBERS + TWO + "person " + word + ";", AT + 25);
                loads("boat " + word, NUMBERS + "boat " + word + ";" + TWO, AT + 5);
                loads("of " + word, NUMBERS + "boat xyzxyz;person a of " + word + ";person b;", AT + 24);
            }
        });
        CHECKS.holds("Section 7", "a word that is quoted in the grammar is a keyword", () -> {
            for (String word : KEYWORDS) {
                loads("person " + word, NUMBERS + TWO + "person " + word + ";", AT + 25);
                loads("boat " + word, NUMBERS + "boat " + word + ";" + TWO, AT + 5);
                loads("of " + word, NUMBERS + "boat c;person a of " + word + ";person b;", AT + 19);
                loads("a letter more than " + word, NUMBERS + TWO + "person x" + word.substring(0, Math.min(5, word.length())) + ";", -2);
                String shorter = word.substring(0, Math.min(6, word.length() - 1));
                loads("a letter less than " + word, NUMBERS + TWO + "person " + shorter + ";", -2);
            }
            String[] names = {"ofs", "boats", "lesser", "carrys", "leasts", "persom", "oe", "nf"};
            for (String name : names) loads("person " + name, NUMBERS + TWO + "person " + name + ";", -2);
        });
    }

    private static void ints() {
        CHECKS.holds("Section 7", "A maximal run of digits is an INT; it has 1 to 3 digits (perhaps with leading zeros).", () -> {
            String[] rights = {"1", "01", "001", "9", "09", "009", "99", "099", "100"};
            for (String digits : rights) {
                StickVotes x = Villages.of(NUMBERS.replace("season 10", "season " + digits) + TWO);
                CHECKS.is("LONG " + digits, x.number(0), Integer.parseInt(digits));
            }
            String[] zeros = {"0", "00", "000"};
            for (String digits : zeros) loads("LESS " + digits, NUMBERS.replace("less 1", "less " + digits) + TWO, -2);
            String[] wrongs = {"0001", "0010", "1000", "0100", "00001", "4294967297", "4294967306"};
            for (String digits : wrongs) loads("LONG " + digits, NUMBERS.replace("season 10", "season " + digits) + TWO, 7);
            loads("LESS 0000", NUMBERS.replace("less 1", "less 0000") + TWO, NUMBERS.indexOf("less") + 5);
        });
        CHECKS.holds("Section 7", "A maximal run of digits is an INT", () -> {
            loads("a byte ahead of 0", "season /", 7);
            loads("a byte behind 9", "season :", 7);
            loads("a byte ahead of 0 in an INT", "season 1/", 8);
            loads("a byte behind 9 in an INT", "season 1:", 8);
            loads("a minus sign", "season -1", 7);
            loads("a plus sign", "season +1", 7);
            loads("a point", "season 1.0", 8);
        });
    }

    private static void otherTokens() {
        CHECKS.holds("Section 7", "The semicolon is a token by itself.", () -> {
            loads("semicolons without space", NUMBERS + "boat c;person a of c;person b;", -2);
            loads("two semicolons behind the numbers", NUMBERS + ";" + TWO, AT);
            loads("two semicolons behind a boat", NUMBERS + "boat c;;" + TWO, AT + 7);
            loads("two semicolons behind all", NUMBERS + TWO + ";", AT + 18);
            loads("a semicolon ahead", ";" + NUMBERS + TWO, 0);
        });
        CHECKS.holds("Section 7", "Nothing else is a token.", () -> {
            for (int sign = 0; sign < 256; sign++) {
                boolean isSpace = sign == 32 || sign == 10;
                boolean isLetter = sign >= 'a' && sign <= 'z';
                loads("byte " + sign + " in place of ;", NUMBERS + "person a;person b" + (char) sign,
                    sign == ';' ? -2 : isSpace ? AT + 18 : isLetter ? AT + 18 : AT + 17);
                loads("byte " + sign + " in place of a NAME", NUMBERS + "person " + (char) sign + ";person A;",
                    isLetter ? AT + 16 : isSpace ? AT + 8 : AT + 7);
            }
        });
    }

    private static void grammar() {
        String text = "season 10 shares 50 40 60 100 less 1 least 2 carry 1 appeal 3 recounts 1 ; "
            + "boat c ; person a of c ; person b ;";
        String[] tokens = text.split(" ");
        CHECKS.holds("Section 7", "it is the length of the text if the text ends too early.", () -> {
            StringBuilder head = new StringBuilder();
            for (String token : tokens) {
                loads("an end ahead of " + token, head.toString(), head.length());
                loads("an end and spaces ahead of " + token, head + " \n ", head.length() + 3);
                head.append(token).append(' ');
            }
            loads("an end in season", "seaso", 0);
            loads("an end behind of", NUMBERS + "boat c;person a of", AT + 18);
            loads("an end at 800 bytes", NUMBERS + "person a;" + " ".repeat(800 - AT - 9), 800);
        });
        CHECKS.holds("Section 7", "the first byte of the first token that cannot stand where it stands", () -> {
            for (int i = 0; i < tokens.length; i++) {
                StringBuilder left = new StringBuilder();
                int next = i + 1;
                // In place of a SHARE that is missing the next ones stand.
                while (next < tokens.length && isInt(tokens[i]) && isInt(tokens[next])) next++;
                int due = 0;
                for (int k = 0; k < tokens.length; k++) {
                    if (k == next) due = left.length();
                    if (k != i) left.append(tokens[k]).append(' ');
                }
                loads(tokens[i] + " missing", left.toString(), next == tokens.length ? left.length() : due);
            }
        });
        CHECKS.holds("Section 7", "the first byte of the first token that cannot stand where it stands", () -> {
            String[] others = {"season", "of", "1", ";", "x", "!", "xyzxyzx", "1000", "person", "boat"};
            int at = 0;
            for (int i = 0; i < tokens.length; i++) {
                for (String other : others) {
                    if (canStand(other, tokens, i)) continue;
                    String head = text.substring(0, at);
                    loads(other + " in place of " + tokens[i] + " at " + at, head + other + text.substring(at + tokens[i].length()), at);
                    loads(other + " in place of the rest", head + other, at);
                }
                at += tokens[i].length() + 1;
            }
        });
    }

    private static boolean isInt(String token) {
        return Character.isDigit(token.charAt(0));
    }

    /** Whether the grammar takes a token of that kind at this place of the sample. */
    private static boolean canStand(String other, String[] tokens, int i) {
        String token = tokens[i];
        boolean isName = token.equals("a") || token.equals("b") || (token.equals("c") && tokens[i - 1].equals("boat"));
        if (isName) return other.equals("x");
        if (isInt(token)) return other.equals("1");
        if (token.equals("boat") || token.equals("of")) {
            return other.equals(token) || (token.equals("boat") && other.equals("person")) || (token.equals("of") && other.equals(";"));
        }
        if (token.equals("person") && other.equals("boat")) return tokens[i + 1].equals("a");
        // A person without "of" may end, and one with a boat may be one of it.
        if (token.equals(";") && other.equals("of")) return i == tokens.length - 1;
        return other.equals(token);
    }

    private static void boatsAndPeople() {
        CHECKS.holds("Section 7", "{ boat } person person { person }", () -> {
            for (int boats = 0; boats <= 6; boats++) {
                for (int people = 2; people <= 20; people += 6) {
                    StickVotes x = Villages.crowd(NUMBERS, people, boats, p -> -2);
                    CHECKS.is("boats", x.value(3), boats);
                    CHECKS.is("people", x.value(2), people);
                }
            }
            loads("no person", NUMBERS, AT);
            loads("one person", NUMBERS + "person a;", AT + 9);
            loads("six boats and one person", Villages.crowdText(NUMBERS, 1, 6, p -> 5), AT + 48 + 16);
            loads("a boat behind a person", NUMBERS + "person a;boat c;person b;", AT + 9);
            loads("a boat behind all", NUMBERS + TWO + "boat c;", AT + 18);
        });
        CHECKS.holds("Section 7", "[ \"of\" NAME ] \";\"", () -> {
            loads("no of", NUMBERS + "boat c;person a;person b;", -2);
            loads("of", NUMBERS + "boat c;person a of c;person b of c;", -2);
            loads("of of", NUMBERS + "boat c;person a of c of c;person b;", AT + 21);
            loads("a boat without of", NUMBERS + "boat c;person a c;person b;", AT + 16);
        });
        CHECKS.holds("Section 7", "The second NAME of a person is a boat.", () -> {
            StickVotes x = Villages.of(NUMBERS + "boat a;boat b;person b of a;person a of b;");
            CHECKS.is("person b", x.named(2 << 25, false), 0);
            CHECKS.is("boat of b", x.person(0, 0), 0);
            CHECKS.is("boat of a", x.person(1, 0), 1);
        });
        CHECKS.holds("Section 7", "All boats are at home, all sticks at hand.", () -> {
            StickVotes x = Villages.crowd(NUMBERS, 20, 6, p -> p % 6);
            for (int b = 0; b < 6; b++) CHECKS.is("boat(" + b + ", 0)", x.boat(b, 0), 0);
            for (int p = 0; p < 20; p++) {
                CHECKS.is("person(" + p + ", 0)", x.person(p, 0), p % 6);
                CHECKS.is("person(" + p + ", 1)", x.person(p, 1), 0);
                CHECKS.is("stick(" + p + ", 0)", x.stick(p, 0), 0);
            }
        });
    }

    private static void errorPositions() {
        CHECKS.holds("Section 7", "The error position is the index of the first byte of the first token that cannot stand where it stands", () -> {
            loads("two errors", "season 0 shares 101", 7);
            loads("an error behind spaces", " \n  !", 4);
            loads("an error ahead of what is no token", "season season !", 7);
            loads("what is no token ahead of an error", "season ! season", 7);
            loads("the last byte", NUMBERS + "person a;person b!", AT + 17);
        });
    }

    private static void numbersOfTheVillage() {
        String[] words = {"LONG (1 to 100, the days of a season)", "four SHAREs (0 to 100, of the seasons 0 to 3)",
            "four SHAREs (0 to 100, of the seasons 0 to 3)", "four SHAREs (0 to 100, of the seasons 0 to 3)",
            "four SHAREs (0 to 100, of the seasons 0 to 3)", "LESS (0 to 9)", "LEAST (1 to 20)", "CARRY (0 to 9)",
            "APPEAL (0 to 30)", "RECOUNTS (0 to 3)"};
        int[] least = {1, 0, 0, 0, 0, 0, 1, 0, 0, 0};
        int[] most = {100, 100, 100, 100, 100, 9, 20, 9, 30, 3};
        String[] format = {"season ", " shares ", " ", " ", " ", " less ", " least ", " carry ", " appeal ", " recounts "};
        for (int i = 0; i < words.length; i++) {
            int what = i;
            StringBuilder head = new StringBuilder();
            StringBuilder tail = new StringBuilder();
            for (int k = 0; k <= i; k++) head.append(format[k]).append(k < i ? "7".substring(k == 9 ? 1 : 0) : "");
            for (int k = i + 1; k < 10; k++) tail.append(format[k]).append(k == 9 ? 2 : 7);
            String end = tail + ";" + TWO;
            CHECKS.holds("Section 1", words[i], () -> {
                int[] right = {least[what], most[what]};
                for (int number : right) {
                    StickVotes x = Villages.of(head.toString() + number + end);
                    CHECKS.is("number(" + what + ")", x.number(what), number);
                    CHECKS.is("its neighbour", x.number(what == 0 ? 1 : what - 1), 7);
                }
            });
            CHECKS.holds("Section 7", "an INT out of range", () -> {
                if (least[what] > 0) loads("0 for number " + what, head + "0" + end, head.length());
                loads("one too many for number " + what, head.toString() + (most[what] + 1) + end, head.length());
                loads("999 for number " + what, head + "999" + end, head.length());
                StickVotes x = new StickVotes();
                int before = x.number(what);
                Villages.put(x, head.toString() + (most[what] + 1) + end);
                x.load();
                CHECKS.is("number(" + what + ") behind it", x.number(what), before);
            });
        }
    }

    private static void standNot() {
        CHECKS.holds("Section 7", "the NAME of a boat (person) that an earlier boat (person) has", () -> {
            loads("the second boat as the first", NUMBERS + "boat c;boat c;" + TWO, AT + 12);
            loads("the second person as the first", NUMBERS + "person a;person a;", AT + 16);
            String boats = NUMBERS + "boat c;boat d;boat e;boat f;boat g;";
            String[] earlier = {"c", "d", "g"};
            for (String name : earlier) loads("the sixth boat as " + name, boats + "boat " + name + ";" + TWO, boats.length() + 5);
            loads("a sixth boat of its own", boats + "boat h;" + TWO, -2);
            String people = Villages.crowdText(NUMBERS, 19, 1, p -> 0);
            String[] names = {"pa", "pb", "ps"};
            for (String name : names) loads("the 20th person as " + name, people + "person " + name + ";", people.length() + 7);
            loads("a 20th person of its own", people + "person pt;", -2);
            loads("a person as a boat", NUMBERS + "boat a;person a;person b;", -2);
            loads("names that begin alike", NUMBERS + "boat c;boat cc;person a;person aa;person aaaaaa;", -2);
        });
        CHECKS.holds("Section 7", "the NAME behind \"of\" that no boat has", () -> {
            loads("no boats", NUMBERS + "person a of c;person b;", AT + 12);
            loads("another boat", NUMBERS + "boat c;person a of d;person b;", AT + 19);
            loads("a person", NUMBERS + "boat c;person a;person b of a;", AT + 28);
            loads("a boat's beginning", NUMBERS + "boat cd;person a of c;person b;", AT + 20);
            loads("a boat and more", NUMBERS + "boat c;person a of cd;person b;", AT + 19);
            loads("the sixth boat", NUMBERS + "boat c;boat d;boat e;boat f;boat g;boat h;person a of h;person b;", -2);
        });
        CHECKS.holds("Section 7", "the keyword of a seventh boat or of a 21st person.", () -> {
            String boats = Villages.crowdText(NUMBERS, 0, 6, p -> -2);
            loads("a seventh boat", boats + "boat x;" + TWO, boats.length());
            loads("a seventh boat behind a space", boats + " boat x;" + TWO, boats.length() + 1);
            loads("a seventh boat with the NAME of the first", boats + "boat ba;" + TWO, boats.length());
            String people = Villages.crowdText(NUMBERS, 20, 6, p -> 5);
            loads("a 21st person", people + "person x;", people.length());
            loads("a 21st person behind a line feed", people + "\nperson x;", people.length() + 1);
            loads("a 21st person and an end", people + "person", people.length());
            loads("twenty people", people, -2);
        });
    }

    private static void number() {
        CHECKS.holds("Promise 26", "`what`: 0 LONG, 1 to 4 the SHAREs, 5 LESS, 6 LEAST, 7 CARRY, 8 APPEAL, 9 RECOUNTS", () -> {
            StickVotes x = Villages.of(Villages.numbers(11, "12 13 14 15", 6, 17, 8, 19, 2) + TWO);
            int[] due = {11, 12, 13, 14, 15, 6, 17, 8, 19, 2};
            for (int what = 0; what < 10; what++) CHECKS.is("number(" + what + ")", x.number(what), due[what]);
        });
        CHECKS.holds("Promise 26", "INVALID for any other what.", () -> {
            StickVotes x = Villages.port();
            int[] wrong = {-1, 10, -2, 11, 90, Integer.MIN_VALUE, Integer.MAX_VALUE};
            for (int what : wrong) CHECKS.is("number(" + what + ")", x.number(what), -1);
        });
    }

    private static void named() {
        CHECKS.holds("Promise 29", "six groups of 5 bits, the first letter in bits 25 to 29; a is 1, z is 26; unused groups at the end are 0", () -> {
            StickVotes x = Villages.of(NUMBERS + "person a;person z;person az;person zzzzzz;person aaaaaa;person abcde;");
            int[] letters = {1 << 25, 26 << 25, 1 << 25 | 26 << 20, 900557658, 34636833, 1 << 25 | 2 << 20 | 3 << 15 | 4 << 10 | 5 << 5};
            for (int i = 0; i < letters.length; i++) CHECKS.is("named(" + letters[i] + ", false)", x.named(letters[i], false), i);
        });
        CHECKS.holds("Promise 29", "true for a boat, false for a person", () -> {
            StickVotes x = Villages.of(NUMBERS + "boat c;boat a;person a;person c;person d;");
            CHECKS.is("boat a", x.named(1 << 25, true), 1);
            CHECKS.is("person a", x.named(1 << 25, false), 0);
            CHECKS.is("boat c", x.named(3 << 25, true), 0);
            CHECKS.is("person c", x.named(3 << 25, false), 1);
            CHECKS.is("boat d", x.named(4 << 25, true), -2);
            CHECKS.is("person d", x.named(4 << 25, false), 2);
        });
        CHECKS.holds("Promise 29", "Returns its number", () -> {
            StickVotes x = Villages.crowd(NUMBERS, 20, 6, p -> -2);
            for (int p = 0; p < 20; p++) CHECKS.is("person " + p, x.named(Villages.letters("p" + (char) ('a' + p)), false), p);
            for (int b = 0; b < 6; b++) CHECKS.is("boat " + b, x.named(Villages.letters("b" + (char) ('a' + b)), true), b);
        });
        CHECKS.holds("Promise 29", "NOT_FOUND if there is none.", () -> {
            StickVotes x = Villages.of(NUMBERS + "person ab;person abc;");
            String[] names = {"a", "b", "aba", "abcd", "abcdef", "zzzzzz", "person"};
            for (String name : names) CHECKS.is("person " + name, x.named(Villages.letters(name), false), -2);
            CHECKS.is("boat ab, without boats", x.named(Villages.letters("ab"), true), -2);
            StickVotes y = new StickVotes();
            CHECKS.is("person c", y.named(3 << 25, false), -2);
        });
    }

    private static void namedInvalid() {
        String words = "any other int (0, a group from 27 to 31, a letter behind an unused group, a negative int, bit 30) is an invalid argument";
        CHECKS.holds("Promise 29", words, () -> invalidNames("0", 0));
        CHECKS.holds("Promise 29", words, () -> {
            int full = 34636833; // aaaaaa
            for (int shift = 0; shift <= 25; shift += 5) {
                int others = full & ~(31 << shift);
                for (int group = 27; group <= 31; group++) invalidNames("a group of " + group, others | group << shift);
                if (shift > 0) invalidNames("nothing but a group of 27", 27 << shift);
                StickVotes x = new StickVotes();
                CHECKS.is("a group of 26", x.named(others | 26 << shift, false), -2);
            }
        });
        CHECKS.holds("Promise 29", words, () -> {
            for (int shift = 5; shift <= 25; shift += 5) {
                invalidNames("a gap", 34636833 & ~(31 << shift));
                invalidNames("a letter behind the gap", (34636833 & ~(31 << shift)) >> (shift - 5) << (shift - 5));
            }
            for (int shift = 0; shift <= 20; shift += 5) invalidNames("a letter alone", 1 << shift);
        });
        CHECKS.holds("Promise 29", words, () -> {
            invalidNames("-1", -1);
            invalidNames("MIN", Integer.MIN_VALUE);
            invalidNames("MIN and a", Integer.MIN_VALUE | 1 << 25);
        });
        CHECKS.holds("Promise 29", words, () -> {
            invalidNames("bit 30", 1 << 30);
            invalidNames("bit 30 and a", 1 << 30 | 1 << 25);
            invalidNames("bits 30 and 31 and a", 3 << 30 | 1 << 25);
            invalidNames("MAX", Integer.MAX_VALUE);
        });
    }

    private static void invalidNames(String what, int letters) {
        StickVotes x = Villages.of(NUMBERS + "boat a;person a;person b;");
        CHECKS.is("named(" + letters + ", false), " + what, x.named(letters, false), -1);
        CHECKS.is("named(" + letters + ", true), " + what, x.named(letters, true), -1);
    }

    private static void setupLength() {
        CHECKS.holds("Promise 50", "INTs are in decimal without leading zeros.", () -> {
            StickVotes x = Villages.of("season 001 shares 000 009 010 100 less 00 least 020 carry 09 appeal 030 recounts 003;" + TWO);
            CHECKS.is("setup", Villages.setup(x), "season 1 shares 0 9 10 100 less 0 least 20 carry 9 appeal 30 recounts 3;" + TWO);
        });
        CHECKS.holds("Promise 50", "Tokens are separated by one space, but there is no space before a semicolon, and nothing between a semicolon and the next token", () -> {
            String due = NUMBERS + "boat c;person a of c;person b;";
            StickVotes x = Villages.of(" \n" + due.replace(" ", " \n ").replace(";", " \n;\n") + "\n ");
            CHECKS.is("setup", Villages.setup(x), due);
            CHECKS.is("setupLength()", x.setupLength(), due.length());
        });
        CHECKS.holds("Promise 50", "describes the numbers, the boats and the people as they belong to boats now", () -> {
            StickVotes x = Villages.of(NUMBERS + "boat c;boat dd;person a of c;person b;");
            x.join(0, 1);
            x.join(1, 0);
            CHECKS.is("setup behind join()", Villages.setup(x), NUMBERS + "boat c;boat dd;person a of dd;person b of c;");
            x.join(0, -2);
            CHECKS.is("setup behind join() of none", Villages.setup(x), NUMBERS + "boat c;boat dd;person a;person b of c;");
            x.undo();
            CHECKS.is("setupLength() behind undo()", x.setupLength(), AT + 15 + 15 + 14);
        });
        CHECKS.holds("Promise 50", "Returns the number of bytes.", () -> {
            String least = Villages.numbers(1, "0 0 0 0", 0, 1, 0, 0, 0) + TWO;
            CHECKS.is("setupLength() of the shortest", Villages.of(least).setupLength(), least.length());
            StringBuilder most = new StringBuilder(Villages.numbers(100, "100 100 100 100", 9, 20, 9, 30, 3));
            for (char c = 'a'; c < 'g'; c++) most.append("boat zzzzz").append(c).append(';');
            for (char c = 'a'; c < 'u'; c++) most.append("person yyyyy").append(c).append(" of zzzzz").append(c < 'm' ? "a;" : "f;");
            StickVotes x = Villages.of(most.toString());
            CHECKS.is("setupLength() of the longest", x.setupLength(), most.length());
            CHECKS.is("its last bytes", x.setupByte(most.length() - 2), 'f');
        });
    }

    private static void setupByte() {
        CHECKS.holds("Promise 51", "`i`: position, from 0", () -> {
            StickVotes x = new StickVotes();
            CHECKS.is("setupByte(0)", x.setupByte(0), 's');
            CHECKS.is("setupByte(last)", x.setupByte(x.setupLength() - 1), ';');
        });
        CHECKS.holds("Promise 51", "INVALID for a negative i", () -> {
            StickVotes x = new StickVotes();
            int[] wrong = {-1, -2, -1000, Integer.MIN_VALUE};
            for (int i : wrong) CHECKS.is("setupByte(" + i + ")", x.setupByte(i), -1);
        });
        CHECKS.holds("Promise 51", "NOT_FOUND if the text is not so long.", () -> {
            StickVotes x = new StickVotes();
            int length = x.setupLength();
            int[] beyond = {length, length + 1, 800, 5000, Integer.MAX_VALUE};
            for (int i : beyond) CHECKS.is("setupByte(" + i + ")", x.setupByte(i), -2);
            // A longer text that was asked for earlier leaves nothing behind.
            StickVotes y = Villages.of(NUMBERS + "boat zzzzzz;person a of zzzzzz;person b;");
            int longer = y.setupLength();
            y.join(0, -2);
            CHECKS.is("setupByte() behind the shorter text", y.setupByte(longer - 10), -2);
            CHECKS.is("setupByte(last)", y.setupByte(longer - 11), ';');
        });
    }

    private static void tapeLength() {
        CHECKS.holds("Promise 52", "Returns the length of the tape.", () -> {
            StickVotes x = new StickVotes();
            CHECKS.is("tapeLength() of a new one", x.tapeLength(), 0);
            for (int i = 0; i < 41; i++) x.append(1, 2, 3, 4, 5);
            CHECKS.is("tapeLength() of a full one", x.tapeLength(), 800);
            x.truncate(799);
            CHECKS.is("tapeLength() of one byte", x.tapeLength(), 1);
            x.truncate(2);
            CHECKS.is("tapeLength() behind a refused truncate()", x.tapeLength(), 1);
            x.truncate(1);
            CHECKS.is("tapeLength() of none", x.tapeLength(), 0);
        });
    }
}
