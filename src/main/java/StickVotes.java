/**
 * Votes by sticks in a fishing village. What each call promises stands in ../shared/DOC.md.
 *
 * <p>The calls of the face check arguments and refusals, in the document's order; what they then do
 * or tell is done by the classes inside. All rows are made once, in constructors, and used again.
 */
public final class StickVotes {
    public static final int INVALID = -1;
    public static final int NOT_FOUND = -2;
    public static final int AT_SEA = -3;
    public static final int NOT_THERE = -4;
    public static final int TOO_LATE = -5;

    private static final int MIN_PEOPLE = 2;
    private static final int MAX_PEOPLE = 20;
    private static final int MAX_BOATS = 6;
    private static final int MIN_BASKETS = 2;
    private static final int MAX_BASKETS = 4;
    private static final int MAX_FAULTS = 3;
    private static final int SEASONS = 4;
    private static final int SLOTS = 2;
    private static final int UNDO_STEPS = 8;
    private static final int PAST_VOTES = 8;
    private static final int LOG_ENTRIES = 30;
    private static final int MAX_DAYS = 99;
    private static final int MAX_FORESIGHT = 999;
    private static final int TAPE_BYTES = 800;
    // The story is the longest text: 30 lines of at most 43 bytes, whatever ints they show.
    private static final int TEXT_BYTES = 2048;

    // The numbers of the village, as number() counts them.
    private static final int LONG = 0;
    private static final int SHARE = 1;
    private static final int LESS = 5;
    private static final int LEAST = 6;
    private static final int CARRY = 7;
    private static final int APPEAL = 8;
    private static final int RECOUNTS = 9;
    private static final int NUMBERS = 10;

    // Where a stick is, as stick() counts it.
    private static final int HAND = 0;
    private static final int WITH = 1;
    private static final int LAID = 2;
    private static final int STRUCK = 3;

    // Why a stick is wrong.
    private static final int RIGHT = 0;
    private static final int OWNER_ASHORE = 1;
    private static final int TOO_MANY = 2;
    private static final int OTHER_BASKET = 3;

    // The states of the latest vote.
    private static final int NO_VOTE = 0;
    private static final int OPEN = 1;
    private static final int CONTESTABLE = 2;
    private static final int FINAL = 3;

    // The kinds of log entries.
    private static final int LOG_SAILS = 0;
    private static final int LOG_HOME = 1;
    private static final int LOG_OPENS = 2;
    private static final int LOG_LAID = 3;
    private static final int LOG_STRUCK = 4;
    private static final int LOG_FAULT = 5;
    private static final int LOG_CLOSED = 6;
    private static final int LOG_TURNS = 7;
    private static final int LOG_NO_RESULT = -1;

    // The parts of a row of the past.
    private static final int PAST_TURNOUT = 1;
    private static final int PAST_RESULT = 3;

    private final Parser parser = new Parser();
    private final Bytes tape = parser.tape;
    private final Village village = new Village();
    private final Setup setup = village.setup;
    private final State now = village.now;
    private final History history = new History();
    private final State[] kept = {new State(), new State()};
    private final boolean[] isKept = new boolean[SLOTS];
    private final Scribe scribe = new Scribe();
    private int errorAt = NOT_FOUND;

    public StickVotes() {
        village.beginTheFirstOne();
    }

    // ---- setup

    public int append(int a, int b, int c, int d, int e) {
        if (tape.length() + 20 > TAPE_BYTES) return INVALID;
        tape.addWhole(a);
        tape.addWhole(b);
        tape.addWhole(c);
        tape.addWhole(d);
        tape.addWhole(e);
        return tape.length();
    }

    public int truncate(int n) {
        if (n < 0 || n > tape.length()) return INVALID;
        tape.cutTo(tape.length() - n);
        return tape.length();
    }

    public int load() {
        errorAt = parser.readTape();
        tape.cutTo(0);
        if (errorAt != NOT_FOUND) return INVALID;
        village.beginAnew(parser.draft);
        history.forget();
        for (int slot = 0; slot < isKept.length; slot++) isKept[slot] = false;
        return setup.people();
    }

    public int errorPosition() {
        return errorAt;
    }

    // ---- operations

    public int sail(int boat, int days) {
        if (!isBoat(boat) || !isDays(days)) return INVALID;
        if (now.fleet.isOut(boat)) return NOT_THERE;
        history.remember(now);
        return village.setOut(boat, days);
    }

    public int delay(int boat, int days) {
        if (!isBoat(boat) || !isDays(days)) return INVALID;
        if (!now.fleet.isOut(boat)) return NOT_THERE;
        history.remember(now);
        now.fleet.moveBack(boat, days);
        return now.fleet.backOf(boat);
    }

    public int comeHome(int boat) {
        if (!isBoat(boat)) return INVALID;
        if (!now.fleet.isOut(boat)) return NOT_THERE;
        history.remember(now);
        return village.bringHome(boat);
    }

    public int join(int person, int boat) {
        if (!isPerson(person) || (boat != NOT_FOUND && !isBoat(boat))) return INVALID;
        if (now.fleet.isAtSea(person)) return AT_SEA;
        int earlier = now.fleet.boatOf(person);
        if (earlier == boat) return NOT_FOUND;
        history.remember(now);
        now.fleet.assign(person, boat);
        return earlier == NOT_FOUND ? 0 : earlier + 1;
    }

    public int open(int baskets) {
        if (baskets < MIN_BASKETS || baskets > MAX_BASKETS) return INVALID;
        if (village.isVoteOpen()) return TOO_LATE;
        history.remember(now);
        return village.beginVote(baskets);
    }

    public int give(int owner, int carrier, int basket) {
        if (!isPerson(owner) || !isPerson(carrier) || owner == carrier) return INVALID;
        if (basket != NOT_FOUND && !isBasket(basket)) return INVALID;
        if (now.fleet.isAtSea(owner) || now.fleet.isAtSea(carrier)) return AT_SEA;
        if (now.sticks.placeOf(owner) != HAND) return NOT_THERE;
        history.remember(now);
        now.sticks.handTo(owner, carrier, basket);
        return Integer.bitCount(now.sticks.carriedBy(carrier));
    }

    public int takeBack(int owner) {
        if (!isPerson(owner)) return INVALID;
        boolean isCarried = now.sticks.placeOf(owner) == WITH;
        int carrier = now.sticks.carrierOf(owner);
        if (now.fleet.isAtSea(owner) || (isCarried && now.fleet.isAtSea(carrier))) return AT_SEA;
        if (!isCarried) return NOT_THERE;
        history.remember(now);
        now.sticks.handBack(owner);
        return carrier;
    }

    public int lay(int person, int owner, int basket) {
        int refusal = refusalToLay(person, owner, basket);
        if (refusal != 0) return refusal;
        history.remember(now);
        return village.putIntoBasket(person, owner, basket);
    }

    public int contest(int person, int owner) {
        if (!isPerson(person) || !isPerson(owner)) return INVALID;
        if (now.fleet.isAtSea(person)) return AT_SEA;
        if (now.sticks.placeOf(owner) != LAID) return NOT_THERE;
        if (now.fleet.faultsOf(person) >= MAX_FAULTS) return NOT_THERE;
        if (!village.isVoteOpen() && village.stateOfVote() != CONTESTABLE) return TOO_LATE;
        history.remember(now);
        return village.judge(person, owner);
    }

    public int close() {
        if (!village.isVoteOpen()) return TOO_LATE;
        history.remember(now);
        return village.endVote();
    }

    public int recount() {
        if (village.stateOfVote() != CONTESTABLE) return TOO_LATE;
        if (now.recounts >= setup.numberOf(RECOUNTS)) return TOO_LATE;
        history.remember(now);
        return village.strikeAllWrong();
    }

    public int pass(int days) {
        if (!isDays(days)) return INVALID;
        history.remember(now);
        return village.letDaysPass(days);
    }

    public int keep(int slot) {
        if (!isSlot(slot)) return INVALID;
        kept[slot].copyFrom(now);
        isKept[slot] = true;
        return now.day;
    }

    public int restore(int slot) {
        if (!isSlot(slot)) return INVALID;
        if (!isKept[slot]) return NOT_FOUND;
        history.remember(now);
        now.copyFrom(kept[slot]);
        return now.day;
    }

    public int undo() {
        return history.bringBack(now) ? history.steps() : INVALID;
    }

    // ---- what there is

    public int value(int what) {
        switch (what) {
            case 0: return now.day;
            case 1: return village.seasonOn(now.day);
            case 2: return setup.people();
            case 3: return setup.boats();
            case 4: return now.fleet.boatsOut();
            case 5: return now.fleet.peopleAtSea();
            case 6: return village.needOfVote();
            case 7: return now.sticks.turnout();
            case 8: return village.stateOfVote();
            case 9: return now.baskets;
            case 10: return village.isVoteOpen() ? NOT_FOUND : village.resultNow();
            case 11: return now.sticks.struckOnes();
            case 12: return now.recounts;
            case 13: return now.votes;
            case 14: return now.log.size();
            case 15: return setup.people() - now.fleet.peopleAtSea();
            case 16: return Integer.bitCount(now.sticks.wrongMask());
            default: return INVALID;
        }
    }

    public int person(int person, int what) {
        if (!isPerson(person)) return INVALID;
        switch (what) {
            case 0: return now.fleet.boatOf(person);
            case 1: return now.fleet.isAtSea(person) ? 1 : 0;
            case 2: return village.homeDayOf(person);
            case 3: return now.fleet.faultsOf(person);
            case 4: return Integer.bitCount(now.sticks.carriedBy(person));
            case 5: return now.sticks.laidForOthers(person);
            case 6: return now.fleet.daysAtSeaOf(person);
            default: return INVALID;
        }
    }

    public int boat(int boat, int what) {
        if (!isBoat(boat)) return INVALID;
        switch (what) {
            case 0: return now.fleet.isOut(boat) ? 1 : 0;
            case 1: return now.fleet.isOut(boat) ? now.fleet.backOf(boat) : now.day;
            case 2: return now.fleet.aboard(boat);
            case 3: return now.fleet.belongingTo(boat);
            case 4: return now.fleet.sailedOf(boat);
            default: return INVALID;
        }
    }

    public int stick(int owner, int what) {
        if (!isPerson(owner)) return INVALID;
        switch (what) {
            case 0: return now.sticks.placeOf(owner);
            case 1: return now.sticks.carrierOf(owner);
            case 2: return now.sticks.boundTo(owner);
            case 3: return now.sticks.basketOf(owner);
            case 4: return now.sticks.dayOf(owner);
            case 5: return now.sticks.reasonOf(owner);
            default: return INVALID;
        }
    }

    public int basket(int basket) {
        return isBasket(basket) ? now.sticks.countIn(basket) : INVALID;
    }

    public int number(int what) {
        return isIn(what, NUMBERS) ? setup.numberOf(what) : INVALID;
    }

    public int past(int vote, int what) {
        if (vote < 0 || !isIn(what, Ring.PARTS)) return INVALID;
        return now.past.part(vote, what);
    }

    public int log(int i, int what) {
        if (i < 0 || !isIn(what, Ring.PARTS)) return INVALID;
        if (i >= now.log.size()) return NOT_FOUND;
        return now.log.part(now.log.oldest() + i, what);
    }

    public int named(int letters, boolean boat) {
        if (!Setup.isName(letters)) return INVALID;
        return boat ? setup.boatNamed(letters) : setup.personNamed(letters);
    }

    public int owners(int basket) {
        return isBasket(basket) ? now.sticks.maskIn(basket) : INVALID;
    }

    public int carries(int person) {
        return isPerson(person) ? now.sticks.carriedBy(person) : INVALID;
    }

    public int wrongOnes() {
        return now.sticks.wrongMask();
    }

    // ---- what would be

    public int why(int person, int owner, int basket) {
        int refusal = refusalToLay(person, owner, basket);
        return refusal != 0 ? refusal : village.reasonFor(person, owner, basket);
    }

    public int needIfHome(int boat) {
        if (!isBoat(boat)) return INVALID;
        if (!now.fleet.isOut(boat)) return NOT_THERE;
        return village.needOf(now.day, now.fleet.boatsOut() - 1);
    }

    public int leads() {
        return village.isVoteOpen() ? village.resultNow() : TOO_LATE;
    }

    public int truly() {
        return village.stateOfVote() == NO_VOTE ? TOO_LATE : village.resultOfRightOnes();
    }

    public boolean canWin(int basket) {
        if (!isBasket(basket) || !village.isVoteOpen() || basket >= now.baskets) return false;
        return village.resultWithAllInto(basket) == basket;
    }

    public int decisive() {
        return village.stateOfVote() == NO_VOTE ? TOO_LATE : village.decidingSticks();
    }

    public int lacks() {
        if (!village.isVoteOpen()) return TOO_LATE;
        return Math.max(village.needOfVote() - now.sticks.turnout(), 0);
    }

    public int needIn(int days) {
        if (days < 0 || days > MAX_FORESIGHT) return INVALID;
        return village.needBehind(days);
    }

    public int bestDay(int days) {
        return isDays(days) ? village.bestDayUpTo(days) : INVALID;
    }

    public int mightiest() {
        return village.mightiestCarrier();
    }

    public boolean agrees() {
        return now.sticks.turnout() + now.sticks.struckOnes() == now.lays;
    }

    // ---- rates

    public float share(int basket) {
        if (!isBasket(basket)) return -1;
        int turnout = now.sticks.turnout();
        return turnout == 0 ? 0 : (float) now.sticks.countIn(basket) / (float) turnout;
    }

    public double seafaring() {
        long days = (long) now.day * setup.people();
        return days == 0 ? 0 : (double) now.fleet.daysAtSeaOfAll() / (double) days;
    }

    // ---- texts

    public int viewLength() {
        return scribe.writeView(setup, now).length();
    }

    public int viewByte(int i) {
        return i < 0 ? INVALID : scribe.writeView(setup, now).at(i);
    }

    public int storyLength() {
        return scribe.writeStory(now.log).length();
    }

    public int storyByte(int i) {
        return i < 0 ? INVALID : scribe.writeStory(now.log).at(i);
    }

    public int setupLength() {
        return scribe.writeSetup(setup, now.fleet).length();
    }

    public int setupByte(int i) {
        return i < 0 ? INVALID : scribe.writeSetup(setup, now.fleet).at(i);
    }

    public int tapeLength() {
        return tape.length();
    }

    // ---- arguments and refusals

    private static boolean isIn(int i, int bound) {
        return i >= 0 && i < bound;
    }

    private static boolean isDays(int days) {
        return days >= 1 && days <= MAX_DAYS;
    }

    private static boolean isBasket(int basket) {
        return isIn(basket, MAX_BASKETS);
    }

    private boolean isPerson(int person) {
        return isIn(person, setup.people());
    }

    private boolean isBoat(int boat) {
        return isIn(boat, setup.boats());
    }

    private boolean isSlot(int slot) {
        return isIn(slot, kept.length) && isIn(slot, isKept.length);
    }

    /** Why lay() is refused now; 0 if it is not. */
    private int refusalToLay(int person, int owner, int basket) {
        if (!isPerson(person) || !isPerson(owner) || !isBasket(basket)) return INVALID;
        if (now.fleet.isAtSea(person)) return AT_SEA;
        if (!now.sticks.isHadBy(person, owner)) return NOT_THERE;
        if (!village.isVoteOpen() || basket >= now.baskets) return TOO_LATE;
        return 0;
    }

    /** Copies as much of a row as both rows have. */
    private static void copyRow(int[] from, int[] to) {
        System.arraycopy(from, 0, to, 0, Math.min(from.length, to.length));
    }

    private static void fillRow(int[] row, int value) {
        for (int i = 0; i < row.length; i++) row[i] = value;
    }

    private static int cell(int[] row, int i, int otherwise) {
        return i >= 0 && i < row.length ? row[i] : otherwise;
    }

    private static void setCell(int[] row, int i, int value) {
        if (i >= 0 && i < row.length) row[i] = value;
    }

    /** A text that grows at its end, up to a fixed capacity. */
    private static final class Bytes {
        private final byte[] cells;
        private int length;

        Bytes(int capacity) {
            cells = new byte[Math.max(capacity, 0)];
        }

        int length() {
            return length;
        }

        int at(int i) {
            return i >= 0 && i < length && i < cells.length ? cells[i] & 255 : NOT_FOUND;
        }

        void cutTo(int newLength) {
            if (newLength >= 0 && newLength <= length) length = newLength;
        }

        void add(int sign) {
            if (length < 0 || length >= cells.length) return;
            cells[length] = (byte) sign;
            length++;
        }

        /** Adds the four bytes of an int, the most significant one first. */
        void addWhole(int whole) {
            for (int shift = 24; shift >= 0; shift -= 8) add(whole >>> shift);
        }

        void addText(String text) {
            for (int i = 0; i < text.length(); i++) add(text.charAt(i));
        }

        void addName(int letters) {
            for (int shift = Setup.FIRST_LETTER; shift >= 0; shift -= Setup.LETTER_BITS) {
                int letter = letters >> shift & Setup.LETTER_MASK;
                if (letter != 0) add('a' + letter - 1);
            }
        }

        void addNumber(int number) {
            long rest = number;
            if (rest < 0) {
                add('-');
                rest = -rest;
            }
            long unit = 1;
            for (int digits = 1; digits < 11 && unit * 10 <= rest; digits++) unit *= 10;
            for (; unit > 0; unit /= 10) add((int) ('0' + rest / unit % 10));
        }
    }

    /** What a setup text gives: the numbers, the names, and who belongs to which boat at first. */
    private static final class Setup {
        // A name is an int as named() takes it: six groups of 5 bits, the first letter highest.
        static final int LETTER_BITS = 5;
        static final int LETTER_MASK = 31;
        static final int FIRST_LETTER = 25;
        static final int LETTERS = 26;

        private final int[] numbers = new int[NUMBERS];
        private final int[] boatNames = new int[MAX_BOATS];
        private final int[] personNames = new int[MAX_PEOPLE];
        private final int[] firstBoats = new int[MAX_PEOPLE];
        private int boats;
        private int people;

        void makeFirstVillage() {
            clear();
            setNumber(LONG, 90);
            for (int season = 0; season < SEASONS; season++) setNumber(SHARE + season, 50);
            setNumber(LESS, 1);
            setNumber(LEAST, 1);
            setNumber(CARRY, 1);
            setNumber(APPEAL, 3);
            setNumber(RECOUNTS, 1);
            addPerson(1 << FIRST_LETTER, NOT_FOUND);
            addPerson(2 << FIRST_LETTER, NOT_FOUND);
        }

        void clear() {
            boats = 0;
            people = 0;
        }

        void copyFrom(Setup other) {
            copyRow(other.numbers, numbers);
            copyRow(other.boatNames, boatNames);
            copyRow(other.personNames, personNames);
            copyRow(other.firstBoats, firstBoats);
            boats = other.boats;
            people = other.people;
        }

        int boats() {
            return boats;
        }

        int people() {
            return people;
        }

        int numberOf(int what) {
            return cell(numbers, what, 0);
        }

        void setNumber(int what, int number) {
            setCell(numbers, what, number);
        }

        void addBoat(int name) {
            if (boats >= MAX_BOATS) return;
            setCell(boatNames, boats, name);
            boats++;
        }

        void addPerson(int name, int boat) {
            if (people >= MAX_PEOPLE) return;
            setCell(personNames, people, name);
            setCell(firstBoats, people, boat);
            people++;
        }

        int boatName(int boat) {
            return cell(boatNames, boat, 0);
        }

        int personName(int person) {
            return cell(personNames, person, 0);
        }

        int firstBoatOf(int person) {
            return cell(firstBoats, person, NOT_FOUND);
        }

        int boatNamed(int name) {
            return find(boatNames, boats, name);
        }

        int personNamed(int name) {
            return find(personNames, people, name);
        }

        private static int find(int[] names, int count, int name) {
            for (int i = 0; i < count && i < names.length; i++) {
                if (names[i] == name) return i;
            }
            return NOT_FOUND;
        }

        /** Whether an int is one to six letters, without a gap and without other bits. */
        static boolean isName(int letters) {
            if (letters <= 0 || letters >> FIRST_LETTER + LETTER_BITS != 0) return false;
            boolean isEnded = false;
            for (int shift = FIRST_LETTER; shift >= 0; shift -= LETTER_BITS) {
                int letter = letters >> shift & LETTER_MASK;
                if (letter > LETTERS || (letter != 0 && isEnded)) return false;
                if (letter == 0) isEnded = true;
            }
            return true;
        }
    }

    /** The tape, and what reads it as a setup text. A step that fails leaves the token that cannot stand. */
    private static final class Parser {
        private static final int END = 0;
        private static final int WORD = 1;
        private static final int INT = 2;
        private static final int SEMICOLON = 3;
        private static final int NO_TOKEN = 4;
        private static final int MAX_LETTERS = 6;
        private static final int MAX_DIGITS = 3;

        final Bytes tape = new Bytes(TAPE_BYTES);
        final Setup draft = new Setup();
        private int kind;
        private int start;
        private int end;

        /** Reads the tape into the draft; returns the error position, NOT_FOUND without an error. */
        int readTape() {
            draft.clear();
            end = 0;
            advance();
            return readNumbers() && readBoats() && readPeople() ? NOT_FOUND : start;
        }

        private boolean readNumbers() {
            return skipKeyword("season") && readNumber(LONG, 1, 100)
                && skipKeyword("shares") && readShares()
                && skipKeyword("less") && readNumber(LESS, 0, 9)
                && skipKeyword("least") && readNumber(LEAST, 1, 20)
                && skipKeyword("carry") && readNumber(CARRY, 0, 9)
                && skipKeyword("appeal") && readNumber(APPEAL, 0, 30)
                && skipKeyword("recounts") && readNumber(RECOUNTS, 0, 3)
                && skipSemicolon();
        }

        private boolean readShares() {
            for (int season = 0; season < SEASONS; season++) {
                if (!readNumber(SHARE + season, 0, 100)) return false;
            }
            return true;
        }

        private boolean readBoats() {
            for (int boats = 0; boats < MAX_BOATS && isKeyword("boat"); boats++) {
                advance();
                if (!isName() || draft.boatNamed(letters()) != NOT_FOUND) return false;
                draft.addBoat(letters());
                advance();
                if (!skipSemicolon()) return false;
            }
            return !isKeyword("boat");
        }

        private boolean readPeople() {
            for (int people = 0; people < MAX_PEOPLE; people++) {
                if (people >= MIN_PEOPLE && kind == END) return true;
                if (!skipKeyword("person") || !readPerson()) return false;
            }
            return kind == END;
        }

        private boolean readPerson() {
            if (!isName() || draft.personNamed(letters()) != NOT_FOUND) return false;
            int name = letters();
            int boat = NOT_FOUND;
            advance();
            if (isKeyword("of")) {
                advance();
                if (isName()) boat = draft.boatNamed(letters());
                if (boat == NOT_FOUND) return false;
                advance();
            }
            draft.addPerson(name, boat);
            return skipSemicolon();
        }

        private boolean readNumber(int what, int least, int most) {
            if (kind != INT) return false;
            int number = digits();
            if (number < least || number > most) return false;
            draft.setNumber(what, number);
            advance();
            return true;
        }

        private boolean skipKeyword(String word) {
            if (!isKeyword(word)) return false;
            advance();
            return true;
        }

        private boolean skipSemicolon() {
            if (kind != SEMICOLON) return false;
            advance();
            return true;
        }

        private boolean isKeyword(String word) {
            return kind == WORD && reads(word);
        }

        private boolean isName() {
            return kind == WORD && end - start <= MAX_LETTERS && !isAnyKeyword();
        }

        /** Goes to the next token. Whether a word is a keyword or a NAME is asked where it stands. */
        private void advance() {
            start = end;
            while (start < tape.length() && isSpace(tape.at(start))) start++;
            end = start;
            if (isLetter(tape.at(start))) {
                while (end < tape.length() && isLetter(tape.at(end))) end++;
                kind = WORD;
            } else if (isDigit(tape.at(start))) {
                while (end < tape.length() && isDigit(tape.at(end))) end++;
                kind = end - start <= MAX_DIGITS ? INT : NO_TOKEN;
            } else if (start >= tape.length()) {
                kind = END;
            } else {
                kind = tape.at(start) == ';' ? SEMICOLON : NO_TOKEN;
                end = start + 1;
            }
        }

        private boolean isAnyKeyword() {
            return reads("season") || reads("shares") || reads("less") || reads("least")
                || reads("carry") || reads("appeal") || reads("recounts") || reads("boat")
                || reads("person") || reads("of");
        }

        private boolean reads(String word) {
            if (end - start != word.length()) return false;
            for (int i = 0; i < word.length(); i++) {
                if (tape.at(start + i) != word.charAt(i)) return false;
            }
            return true;
        }

        private int letters() {
            int letters = 0;
            int shift = Setup.FIRST_LETTER;
            for (int i = start; i < end && shift >= 0; i++) {
                letters |= tape.at(i) - 'a' + 1 << shift;
                shift -= Setup.LETTER_BITS;
            }
            return letters;
        }

        private int digits() {
            int number = 0;
            for (int i = start; i < end; i++) number = number * 10 + tape.at(i) - '0';
            return number;
        }

        private static boolean isSpace(int sign) {
            return sign == ' ' || sign == '\n';
        }

        private static boolean isLetter(int sign) {
            return sign >= 'a' && sign <= 'z';
        }

        private static boolean isDigit(int sign) {
            return sign >= '0' && sign <= '9';
        }
    }

    /** The people and the boats. */
    private static final class Fleet {
        // A boat that is out has a BACK of 1 or more.
        private static final int AT_HOME = 0;

        private final int[] boatOf = new int[MAX_PEOPLE];
        private final int[] atSea = new int[MAX_PEOPLE];
        private final int[] faults = new int[MAX_PEOPLE];
        private final int[] daysAtSea = new int[MAX_PEOPLE];
        private final int[] back = new int[MAX_BOATS];
        private final int[] sailed = new int[MAX_BOATS];

        void begin(Setup setup) {
            for (int person = 0; person < boatOf.length; person++) {
                boatOf[person] = person < setup.people() ? setup.firstBoatOf(person) : NOT_FOUND;
            }
            fillRow(atSea, 0);
            fillRow(faults, 0);
            fillRow(daysAtSea, 0);
            fillRow(back, AT_HOME);
            fillRow(sailed, 0);
        }

        void copyFrom(Fleet other) {
            copyRow(other.boatOf, boatOf);
            copyRow(other.atSea, atSea);
            copyRow(other.faults, faults);
            copyRow(other.daysAtSea, daysAtSea);
            copyRow(other.back, back);
            copyRow(other.sailed, sailed);
        }

        int boatOf(int person) {
            return cell(boatOf, person, NOT_FOUND);
        }

        boolean isAtSea(int person) {
            return cell(atSea, person, 0) != 0;
        }

        int faultsOf(int person) {
            return cell(faults, person, 0);
        }

        int daysAtSeaOf(int person) {
            return cell(daysAtSea, person, 0);
        }

        boolean isOut(int boat) {
            return cell(back, boat, AT_HOME) != AT_HOME;
        }

        int backOf(int boat) {
            return cell(back, boat, AT_HOME);
        }

        int sailedOf(int boat) {
            return cell(sailed, boat, 0);
        }

        void assign(int person, int boat) {
            setCell(boatOf, person, boat);
        }

        void addFault(int person) {
            setCell(faults, person, faultsOf(person) + 1);
        }

        void moveBack(int boat, int days) {
            setCell(back, boat, backOf(boat) + days);
        }

        /** Lets a boat leave; returns how many are aboard. */
        int leave(int boat, int backDay) {
            setCell(back, boat, backDay);
            setCell(sailed, boat, sailedOf(boat) + 1);
            for (int person = 0; person < MAX_PEOPLE; person++) {
                if (boatOf(person) == boat) setCell(atSea, person, 1);
            }
            return aboard(boat);
        }

        /** Lets a boat arrive; returns how many come home with it. */
        int arrive(int boat) {
            int home = aboard(boat);
            setCell(back, boat, AT_HOME);
            for (int person = 0; person < MAX_PEOPLE; person++) {
                if (boatOf(person) == boat) setCell(atSea, person, 0);
            }
            return home;
        }

        void countDayAtSea() {
            for (int person = 0; person < MAX_PEOPLE; person++) {
                if (isAtSea(person)) setCell(daysAtSea, person, daysAtSeaOf(person) + 1);
            }
        }

        int aboard(int boat) {
            int aboard = 0;
            for (int person = 0; person < MAX_PEOPLE; person++) {
                if (boatOf(person) == boat && isAtSea(person)) aboard++;
            }
            return aboard;
        }

        int belongingTo(int boat) {
            int belonging = 0;
            for (int person = 0; person < MAX_PEOPLE; person++) {
                if (boatOf(person) == boat) belonging++;
            }
            return belonging;
        }

        int boatsOut() {
            int out = 0;
            for (int boat = 0; boat < MAX_BOATS; boat++) {
                if (isOut(boat)) out++;
            }
            return out;
        }

        /** How many of the boats that are out are still out on a day, if they come on their BACKs. */
        int boatsOutOn(int day) {
            int out = 0;
            for (int boat = 0; boat < MAX_BOATS; boat++) {
                if (isOut(boat) && backOf(boat) > day) out++;
            }
            return out;
        }

        int peopleAtSea() {
            int people = 0;
            for (int person = 0; person < MAX_PEOPLE; person++) {
                if (isAtSea(person)) people++;
            }
            return people;
        }

        /** How many of the people at sea are still there on a day, if boats come on their BACKs. */
        int peopleAtSeaOn(int day) {
            int people = 0;
            for (int person = 0; person < MAX_PEOPLE; person++) {
                if (isAtSea(person) && backOf(boatOf(person)) > day) people++;
            }
            return people;
        }

        long daysAtSeaOfAll() {
            long days = 0;
            for (int person = 0; person < MAX_PEOPLE; person++) days += daysAtSeaOf(person);
            return days;
        }
    }

    /** The sticks, by their owners. A stick that is laid keeps its carrier and what it is bound to. */
    private static final class Sticks {
        private final int[] place = new int[MAX_PEOPLE];
        private final int[] carrier = new int[MAX_PEOPLE];
        private final int[] bound = new int[MAX_PEOPLE];
        private final int[] basket = new int[MAX_PEOPLE];
        private final int[] day = new int[MAX_PEOPLE];
        private final int[] reason = new int[MAX_PEOPLE];

        void begin() {
            fillRow(place, HAND);
            fillRow(carrier, NOT_FOUND);
            fillRow(bound, NOT_FOUND);
            fillRow(basket, NOT_FOUND);
            fillRow(day, NOT_FOUND);
            fillRow(reason, RIGHT);
        }

        void copyFrom(Sticks other) {
            copyRow(other.place, place);
            copyRow(other.carrier, carrier);
            copyRow(other.bound, bound);
            copyRow(other.basket, basket);
            copyRow(other.day, day);
            copyRow(other.reason, reason);
        }

        int placeOf(int owner) {
            return cell(place, owner, HAND);
        }

        int carrierOf(int owner) {
            return cell(carrier, owner, NOT_FOUND);
        }

        int boundTo(int owner) {
            return cell(bound, owner, NOT_FOUND);
        }

        int basketOf(int owner) {
            return cell(basket, owner, NOT_FOUND);
        }

        int dayOf(int owner) {
            return cell(day, owner, NOT_FOUND);
        }

        int reasonOf(int owner) {
            return cell(reason, owner, RIGHT);
        }

        boolean isHadBy(int person, int owner) {
            if (placeOf(owner) == HAND) return person == owner;
            return placeOf(owner) == WITH && carrierOf(owner) == person;
        }

        boolean isWrong(int owner) {
            return placeOf(owner) == LAID && reasonOf(owner) != RIGHT;
        }

        void handTo(int owner, int person, int boundBasket) {
            setCell(place, owner, WITH);
            setCell(carrier, owner, person);
            setCell(bound, owner, boundBasket);
        }

        void handBack(int owner) {
            setCell(place, owner, HAND);
            setCell(carrier, owner, NOT_FOUND);
            setCell(bound, owner, NOT_FOUND);
        }

        void putInto(int owner, int intoBasket, int onDay, int why) {
            setCell(place, owner, LAID);
            setCell(basket, owner, intoBasket);
            setCell(day, owner, onDay);
            setCell(reason, owner, why);
        }

        void strike(int owner) {
            setCell(place, owner, STRUCK);
        }

        /** Empties the baskets: all sticks are where they were when they were laid. */
        void takeOut() {
            for (int owner = 0; owner < MAX_PEOPLE; owner++) {
                setCell(place, owner, carrierOf(owner) == NOT_FOUND ? HAND : WITH);
                setCell(basket, owner, NOT_FOUND);
                setCell(day, owner, NOT_FOUND);
                setCell(reason, owner, RIGHT);
            }
        }

        int countIn(int ofBasket) {
            return Integer.bitCount(maskIn(ofBasket));
        }

        int turnout() {
            return countAt(LAID);
        }

        int struckOnes() {
            return countAt(STRUCK);
        }

        private int countAt(int somewhere) {
            int count = 0;
            for (int owner = 0; owner < MAX_PEOPLE; owner++) {
                if (placeOf(owner) == somewhere) count++;
            }
            return count;
        }

        int laidForOthers(int person) {
            int count = 0;
            for (int owner = 0; owner < MAX_PEOPLE; owner++) {
                boolean isLaid = placeOf(owner) == LAID || placeOf(owner) == STRUCK;
                if (isLaid && carrierOf(owner) == person) count++;
            }
            return count;
        }

        int maskIn(int ofBasket) {
            int mask = 0;
            for (int owner = 0; owner < MAX_PEOPLE; owner++) {
                if (placeOf(owner) == LAID && basketOf(owner) == ofBasket) mask |= 1 << owner;
            }
            return mask;
        }

        int carriedBy(int person) {
            int mask = 0;
            for (int owner = 0; owner < MAX_PEOPLE; owner++) {
                if (placeOf(owner) == WITH && carrierOf(owner) == person) mask |= 1 << owner;
            }
            return mask;
        }

        int wrongMask() {
            int mask = 0;
            for (int owner = 0; owner < MAX_PEOPLE; owner++) {
                if (isWrong(owner)) mask |= 1 << owner;
            }
            return mask;
        }
    }

    /** The latest rows of four parts each. Rows bear the numbers 0, 1, .. as they were added. */
    private static final class Ring {
        static final int PARTS = 4;

        private final int rows;
        private final int[] cells;
        private int added;

        Ring(int rows) {
            this.rows = Math.max(rows, 1);
            cells = new int[this.rows * PARTS];
        }

        void clear() {
            added = 0;
        }

        void copyFrom(Ring other) {
            copyRow(other.cells, cells);
            added = other.added;
        }

        int size() {
            return Math.min(added, rows);
        }

        int oldest() {
            return Math.max(added - rows, 0);
        }

        void add(int first, int second, int third, int fourth) {
            int at = placeOf(added);
            setCell(cells, at, first);
            setCell(cells, at + 1, second);
            setCell(cells, at + 2, third);
            setCell(cells, at + 3, fourth);
            added++;
        }

        boolean has(int row) {
            return row >= oldest() && row < added;
        }

        int part(int row, int what) {
            if (!has(row) || !isIn(what, PARTS)) return NOT_FOUND;
            return cell(cells, placeOf(row) + what, NOT_FOUND);
        }

        void setPart(int row, int what, int value) {
            if (has(row) && isIn(what, PARTS)) setCell(cells, placeOf(row) + what, value);
        }

        private int placeOf(int row) {
            return rows < 1 ? 0 : Math.floorMod(row, rows) * PARTS;
        }
    }

    /** All that operations change. */
    private static final class State {
        final Fleet fleet = new Fleet();
        final Sticks sticks = new Sticks();
        final Ring past = new Ring(PAST_VOTES);
        final Ring log = new Ring(LOG_ENTRIES);
        int day;
        int votes;
        // Of the latest vote:
        boolean isOpen;
        int baskets;
        int lays;
        int recounts;
        int fixedNeed;
        int closedOn;

        void begin(Setup setup) {
            fleet.begin(setup);
            sticks.begin();
            past.clear();
            log.clear();
            day = 0;
            votes = 0;
            beginVote(0);
            isOpen = false;
        }

        void beginVote(int withBaskets) {
            isOpen = true;
            baskets = withBaskets;
            lays = 0;
            recounts = 0;
            fixedNeed = 0;
            closedOn = 0;
        }

        void copyFrom(State other) {
            fleet.copyFrom(other.fleet);
            sticks.copyFrom(other.sticks);
            past.copyFrom(other.past);
            log.copyFrom(other.log);
            day = other.day;
            votes = other.votes;
            isOpen = other.isOpen;
            baskets = other.baskets;
            lays = other.lays;
            recounts = other.recounts;
            fixedNeed = other.fixedNeed;
            closedOn = other.closedOn;
        }
    }

    /** The states ahead of the latest operations. */
    private static final class History {
        private final State[] states = new State[UNDO_STEPS];
        private int steps;
        private int next;

        History() {
            for (int i = 0; i < states.length; i++) states[i] = new State();
        }

        int steps() {
            return steps;
        }

        void forget() {
            steps = 0;
        }

        void remember(State state) {
            if (!isIn(next, states.length)) return;
            states[next].copyFrom(state);
            next = next + 1 < states.length ? next + 1 : 0;
            steps = Math.min(steps + 1, states.length);
        }

        /** Makes a state what it was ahead of the latest operation; false if none is left. */
        boolean bringBack(State state) {
            int latest = next > 0 ? next - 1 : states.length - 1;
            if (steps < 1 || !isIn(latest, states.length)) return false;
            state.copyFrom(states[latest]);
            next = latest;
            steps--;
            return true;
        }
    }

    /** Where sticks that are not struck lie, or would lie, and what the result is then. */
    private static final class Ballot {
        private final int[] basketOf = new int[MAX_PEOPLE];
        private final int[] counts = new int[MAX_BASKETS];

        void takeFrom(Sticks sticks) {
            for (int owner = 0; owner < basketOf.length; owner++) {
                basketOf[owner] = sticks.placeOf(owner) == LAID ? sticks.basketOf(owner) : NOT_FOUND;
            }
        }

        void put(int owner, int basket) {
            setCell(basketOf, owner, basket);
        }

        void leaveOut(int owner) {
            setCell(basketOf, owner, NOT_FOUND);
        }

        /** The basket with the greatest count; of several the one with the eldest one's stick. */
        int result(int need) {
            if (countAll() < need) return NOT_FOUND;
            int most = 1;
            for (int basket = 0; basket < counts.length; basket++) {
                most = Math.max(most, counts[basket]);
            }
            for (int owner = 0; owner < basketOf.length; owner++) {
                if (cell(counts, basketOf[owner], 0) == most) return basketOf[owner];
            }
            return NOT_FOUND;
        }

        private int countAll() {
            int turnout = 0;
            fillRow(counts, 0);
            for (int owner = 0; owner < basketOf.length; owner++) {
                int basket = basketOf[owner];
                if (!isBasket(basket)) continue;
                setCell(counts, basket, cell(counts, basket, 0) + 1);
                turnout++;
            }
            return turnout;
        }
    }

    /** What happens in the village, and what would happen. Arguments and refusals are checked. */
    private static final class Village {
        final Setup setup = new Setup();
        final State now = new State();
        private final Ballot ballot = new Ballot();

        void beginTheFirstOne() {
            setup.makeFirstVillage();
            now.begin(setup);
        }

        void beginAnew(Setup other) {
            setup.copyFrom(other);
            now.begin(setup);
        }

        // -- what happens

        int setOut(int boat, int days) {
            int back = now.day + days;
            int aboard = now.fleet.leave(boat, back);
            now.log.add(now.day, LOG_SAILS, boat, back);
            return aboard;
        }

        int bringHome(int boat) {
            int home = now.fleet.arrive(boat);
            now.log.add(now.day, LOG_HOME, boat, home);
            return home;
        }

        int letDaysPass(int days) {
            int home = 0;
            for (int i = 0; i < days; i++) {
                now.day++;
                now.fleet.countDayAtSea();
                home += bringHomeTodays();
            }
            return home;
        }

        private int bringHomeTodays() {
            int home = 0;
            for (int boat = 0; boat < MAX_BOATS; boat++) {
                if (now.fleet.isOut(boat) && now.fleet.backOf(boat) == now.day) {
                    home += bringHome(boat);
                }
            }
            return home;
        }

        int beginVote(int baskets) {
            now.sticks.takeOut();
            now.beginVote(baskets);
            now.votes++;
            now.log.add(now.day, LOG_OPENS, latestVote(), baskets);
            return latestVote();
        }

        int putIntoBasket(int person, int owner, int basket) {
            now.sticks.putInto(owner, basket, now.day, reasonFor(person, owner, basket));
            now.lays++;
            now.log.add(now.day, LOG_LAID, owner, basket);
            return now.sticks.countIn(basket);
        }

        /** Strikes a contested stick, if it is wrong; otherwise the person has a fault. */
        int judge(int person, int owner) {
            int reason = now.sticks.reasonOf(owner);
            if (reason == RIGHT) {
                now.fleet.addFault(person);
                now.log.add(now.day, LOG_FAULT, person, now.fleet.faultsOf(person));
                return RIGHT;
            }
            int before = resultNow();
            strike(owner);
            correctResult(before);
            return reason;
        }

        int strikeAllWrong() {
            int before = resultNow();
            int struck = 0;
            for (int owner = 0; owner < MAX_PEOPLE; owner++) {
                if (!now.sticks.isWrong(owner)) continue;
                strike(owner);
                struck++;
            }
            now.recounts++;
            correctResult(before);
            return struck;
        }

        private void strike(int owner) {
            now.sticks.strike(owner);
            now.log.add(now.day, LOG_STRUCK, owner, now.sticks.reasonOf(owner));
        }

        /** Behind strikes: the past of a closed vote is as they leave it. */
        private void correctResult(int before) {
            if (now.isOpen) return;
            int result = resultFor(now.fixedNeed);
            now.past.setPart(latestVote(), PAST_TURNOUT, now.sticks.turnout());
            now.past.setPart(latestVote(), PAST_RESULT, result);
            if (result != before) {
                now.log.add(now.day, LOG_TURNS, latestVote(), inLog(result));
            }
        }

        int endVote() {
            now.fixedNeed = needOfVote();
            now.closedOn = now.day;
            now.isOpen = false;
            int turnout = now.sticks.turnout();
            int result = resultFor(now.fixedNeed);
            // Votes are closed one by one, so that the row in the past bears the vote's number.
            now.past.add(now.day, turnout, now.fixedNeed, result);
            now.log.add(now.day, LOG_CLOSED, latestVote(), inLog(result));
            return turnout;
        }

        private static int inLog(int result) {
            return result == NOT_FOUND ? LOG_NO_RESULT : result;
        }

        private int latestVote() {
            return now.votes - 1;
        }

        // -- what there is

        boolean isVoteOpen() {
            return now.isOpen;
        }

        int stateOfVote() {
            if (now.votes == 0) return NO_VOTE;
            if (now.isOpen) return OPEN;
            return now.day <= now.closedOn + setup.numberOf(APPEAL) ? CONTESTABLE : FINAL;
        }

        int seasonOn(int day) {
            int length = setup.numberOf(LONG);
            return length < 1 ? 0 : Math.floorMod(day / length, SEASONS);
        }

        int homeDayOf(int person) {
            if (!now.fleet.isAtSea(person)) return now.day;
            return now.fleet.backOf(now.fleet.boatOf(person));
        }

        // -- NEED

        int needOf(int day, int boatsOut) {
            int percent = setup.numberOf(SHARE + seasonOn(day));
            int need = (percent * setup.people() + 99) / 100 - setup.numberOf(LESS) * boatsOut;
            return Math.max(need, setup.numberOf(LEAST));
        }

        int needBehind(int days) {
            int day = now.day + days;
            return needOf(day, now.fleet.boatsOutOn(day));
        }

        /** The fixed NEED of a vote that is closed, otherwise NEED as it is now. */
        int needOfVote() {
            if (now.votes > 0 && !now.isOpen) return now.fixedNeed;
            return needOf(now.day, now.fleet.boatsOut());
        }

        int bestDayUpTo(int days) {
            int best = 0;
            int most = surplusBehind(0);
            for (int later = 1; later <= days && later <= MAX_DAYS; later++) {
                int surplus = surplusBehind(later);
                if (surplus > most) {
                    most = surplus;
                    best = later;
                }
            }
            return best;
        }

        private int surplusBehind(int days) {
            int ashore = setup.people() - now.fleet.peopleAtSeaOn(now.day + days);
            return ashore - needBehind(days);
        }

        // -- what would be

        /** For what reason a stick is wrong if this person lays it now. */
        int reasonFor(int person, int owner, int basket) {
            if (person == owner) return RIGHT;
            if (!now.fleet.isAtSea(owner)) return OWNER_ASHORE;
            if (now.sticks.laidForOthers(person) >= setup.numberOf(CARRY)) return TOO_MANY;
            int bound = now.sticks.boundTo(owner);
            return bound == NOT_FOUND || bound == basket ? RIGHT : OTHER_BASKET;
        }

        /** The result of the latest vote; of an open one, if it was closed now. */
        int resultNow() {
            return resultFor(needOfVote());
        }

        private int resultFor(int need) {
            ballot.takeFrom(now.sticks);
            return ballot.result(need);
        }

        int resultOfRightOnes() {
            ballot.takeFrom(now.sticks);
            for (int owner = 0; owner < MAX_PEOPLE; owner++) {
                if (now.sticks.isWrong(owner)) ballot.leaveOut(owner);
            }
            return ballot.result(needOfVote());
        }

        int resultWithAllInto(int basket) {
            ballot.takeFrom(now.sticks);
            for (int owner = 0; owner < setup.people(); owner++) {
                if (canBeLaid(owner)) ballot.put(owner, basket);
            }
            return ballot.result(needOfVote());
        }

        private boolean canBeLaid(int owner) {
            int place = now.sticks.placeOf(owner);
            if (place == HAND) return !now.fleet.isAtSea(owner);
            return place == WITH && !now.fleet.isAtSea(now.sticks.carrierOf(owner));
        }

        int decidingSticks() {
            int result = resultNow();
            if (result == NOT_FOUND) return 0;
            int deciding = 0;
            for (int owner = 0; owner < MAX_PEOPLE; owner++) {
                if (now.sticks.placeOf(owner) != LAID) continue;
                ballot.leaveOut(owner);
                if (ballot.result(needOfVote()) != result) deciding++;
                ballot.put(owner, now.sticks.basketOf(owner));
            }
            return deciding;
        }

        int mightiestCarrier() {
            int mightiest = NOT_FOUND;
            int most = 0;
            for (int person = 0; person < setup.people(); person++) {
                if (now.fleet.isAtSea(person)) continue;
                int might = mightOf(person);
                if (might > most) {
                    most = might;
                    mightiest = person;
                }
            }
            return mightiest;
        }

        private int mightOf(int person) {
            int carried = now.sticks.carriedBy(person);
            int ofPeopleAtSea = 0;
            for (int owner = 0; owner < MAX_PEOPLE; owner++) {
                if ((carried >> owner & 1) != 0 && now.fleet.isAtSea(owner)) ofPeopleAtSea++;
            }
            int counted = Math.min(ofPeopleAtSea, setup.numberOf(CARRY));
            return now.isOpen ? counted - now.sticks.laidForOthers(person) : counted;
        }
    }

    /** Writes the texts, each anew into the same bytes. */
    private static final class Scribe {
        private final Bytes text = new Bytes(TEXT_BYTES);

        Bytes writeView(Setup setup, State now) {
            text.cutTo(0);
            for (int person = 0; person < setup.people(); person++) {
                text.addName(setup.personName(person));
                text.add(' ');
                writeStick(setup, now.sticks, person);
                if (now.fleet.isAtSea(person)) text.addText(" *");
                text.add('\n');
            }
            return text;
        }

        private void writeStick(Setup setup, Sticks sticks, int owner) {
            int carrier = sticks.carrierOf(owner);
            int basket = sticks.basketOf(owner);
            text.addText(placeWord(sticks.placeOf(owner)));
            if (carrier != NOT_FOUND) {
                text.add(' ');
                text.addName(setup.personName(carrier));
            }
            if (basket != NOT_FOUND) writeNumber(basket);
        }

        private static String placeWord(int place) {
            switch (place) {
                case HAND: return "hand";
                case WITH: return "with";
                case LAID: return "laid";
                default: return "struck";
            }
        }

        Bytes writeStory(Ring log) {
            text.cutTo(0);
            for (int i = 0; i < log.size(); i++) {
                int row = log.oldest() + i;
                text.addNumber(log.part(row, 0));
                text.add(' ');
                text.addText(kindWord(log.part(row, 1)));
                writeNumber(log.part(row, 2));
                writeNumber(log.part(row, 3));
                text.add('\n');
            }
            return text;
        }

        private static String kindWord(int kind) {
            switch (kind) {
                case LOG_SAILS: return "sails";
                case LOG_HOME: return "home";
                case LOG_OPENS: return "opens";
                case LOG_LAID: return "laid";
                case LOG_STRUCK: return "struck";
                case LOG_FAULT: return "fault";
                case LOG_CLOSED: return "closed";
                default: return "turns";
            }
        }

        Bytes writeSetup(Setup setup, Fleet fleet) {
            text.cutTo(0);
            writeNumbers(setup);
            for (int boat = 0; boat < setup.boats(); boat++) {
                text.addText("boat ");
                text.addName(setup.boatName(boat));
                text.add(';');
            }
            for (int person = 0; person < setup.people(); person++) {
                writePerson(setup, fleet, person);
            }
            return text;
        }

        private void writeNumbers(Setup setup) {
            text.addText("season");
            writeNumber(setup.numberOf(LONG));
            text.addText(" shares");
            for (int season = 0; season < SEASONS; season++) {
                writeNumber(setup.numberOf(SHARE + season));
            }
            text.addText(" less");
            writeNumber(setup.numberOf(LESS));
            text.addText(" least");
            writeNumber(setup.numberOf(LEAST));
            text.addText(" carry");
            writeNumber(setup.numberOf(CARRY));
            text.addText(" appeal");
            writeNumber(setup.numberOf(APPEAL));
            text.addText(" recounts");
            writeNumber(setup.numberOf(RECOUNTS));
            text.add(';');
        }

        private void writePerson(Setup setup, Fleet fleet, int person) {
            int boat = fleet.boatOf(person);
            text.addText("person ");
            text.addName(setup.personName(person));
            if (boat != NOT_FOUND) {
                text.addText(" of ");
                text.addName(setup.boatName(boat));
            }
            text.add(';');
        }

        private void writeNumber(int number) {
            text.add(' ');
            text.addNumber(number);
        }
    }
}
