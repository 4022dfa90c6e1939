import java.util.NoSuchElementException;

/**
 * A clock that strikes each hour how many of a parish are awake. Its text is fed and read; then it is asked
 * by which sleep what was struck can be. Words in capitals in the comments are the document's terms.
 */
public final class StrikeAwake {
    public static final int NONE = -1;

    private static final int TAPE_ROOM = 900;
    private static final int FED_AT_ONCE = 20;
    private static final int HOUR_ROOM = 24;
    private static final int PEOPLE_ROOM = 6;
    private static final int SPAN_ROOM = 40;
    private static final int APART_ROOM = 3;
    private static final int BORN_ROOM = 3;
    private static final int TOLD_ROOM = 4;
    private static final int OFFER_ROOM = 6;
    private static final int LOT_ROOM = 20000;
    private static final int ASK_ROOM = 400;
    private static final int PROOF_ROOM = 5000;
    private static final int MOST_STRUCK = 99;

    /** What a call answers that isn't refused, but has nothing to name. */
    private static final int WITHOUT = -2;
    /** Stands where NONE could be taken for an answer, or an HOUR. */
    private static final int FAR_BELOW = -1000;

    private static final int FINE = 0;
    private static final int NO_SUCH = 1;
    private static final int BAD_NUMBER = 2;
    private static final int NO_ROOM = 3;
    private static final int FAULTY = 4;
    private static final int NOT_SO = 5;
    private static final int THERE_IS_NONE = 6;

    private static final Reserved[] RESERVED = Reserved.values();

    private final byte[] tape = new byte[TAPE_ROOM];
    private final Reader reader = new Reader();
    private final Walk walk = new Walk();
    private final Census census = new Census();
    private final Asking asking = new Asking();
    private final Grounds grounds = new Grounds();
    private Parish current = new Parish();
    private Parish draft = new Parish();
    private boolean hasParish;
    private int taped;
    private int refusal;
    private int faultNumber;
    private int faultPlace;

    public StrikeAwake() {
        hasParish = false;
    }

    // ---- the parish

    public int feed(int a, int b, int c, int d, int e) {
        if (taped > TAPE_ROOM - FED_AT_ONCE) {
            return NONE;
        }
        putOnTape(a);
        putOnTape(b);
        putOnTape(c);
        putOnTape(d);
        putOnTape(e);
        return taped;
    }

    public int parish(int n) {
        if (n < 0 || n > taped) {
            return refuse(BAD_NUMBER);
        }
        taped = 0;
        boolean isRead = reader.reads(tape, n, draft);
        faultNumber = reader.fault;
        faultPlace = reader.place;
        if (!isRead) {
            return refuse(FAULTY);
        }
        draft.settle();
        // the two change places, so that a text with a FAULT never touches the PARISH that stays
        Parish before = current;
        current = draft;
        draft = before;
        hasParish = true;
        census.forget();
        return answer(current.people);
    }

    public int fault() {
        return faultNumber;
    }

    public int where() {
        return refusal == FAULTY ? faultPlace : NONE;
    }

    // ---- spans

    public int spans(int person) {
        if (!isPerson(person)) {
            return refuse(NO_SUCH);
        }
        return answer(current.persons[person].spanCount);
    }

    public int span(int person, int i, int what) {
        if (!isSpan(person, i) || what < 0 || what > 2) {
            return refuse(NO_SUCH);
        }
        Person someone = current.persons[person];
        if (what == 2) {
            return answer(someone.weightOf(i));
        }
        return answer(what == 0 ? someone.bedAt[i] : someone.sleepsFor[i]);
    }

    public int awake(int person, int i, int hour) {
        if (!isSpan(person, i) || !isHour(hour)) {
            return refuse(NO_SUCH);
        }
        return answer(hasBit(current.persons[person].awakeIn[i], hour) ? 1 : 0);
    }

    public long lots() {
        if (!hasParish) {
            return refuse(NO_SUCH);
        }
        refusal = FINE;
        return current.lotCount;
    }

    // ---- what is said

    public boolean say(int person, int i) {
        if (!isSpan(person, i)) {
            return deny(NO_SUCH);
        }
        current.persons[person].saidSpan = i;
        return grant();
    }

    public int said(int person) {
        if (!isPerson(person) || current.persons[person].spanCount == 0) {
            return refuse(NO_SUCH);
        }
        return answer(current.persons[person].saidSpan);
    }

    public int strikes(int hour) {
        int bar = barOfSaid(isHour(hour));
        if (bar != FINE) {
            return refuse(bar);
        }
        return answer(walk.strokesDue(hour));
    }

    public int judge() {
        int bar = barOfSaid(hasParish);
        if (bar != FINE) {
            return refuse(bar);
        }
        return answer(walk.firstWrong(current));
    }

    public int why() {
        int bar = barOfSaid(hasParish);
        if (bar != FINE) {
            return refuse(bar);
        }
        int hour = walk.firstWrong(current);
        return answer(hour < 0 ? 0 : walk.wrongIn(current, hour));
    }

    public int agrees() {
        int bar = barOfSaid(hasParish);
        if (bar != FINE) {
            return refuse(bar);
        }
        return answer(walk.isWorld(current) ? 1 : 0);
    }

    // ---- worlds

    public int worlds() {
        int bar = barOfWorlds(hasParish);
        if (bar != FINE) {
            return refuse(bar);
        }
        return answer(census.count);
    }

    public int can() {
        int bar = barOfWorlds(hasParish);
        if (bar != FINE) {
            return refuse(bar);
        }
        return answer(census.count > 0 ? 1 : 0);
    }

    public int world(int i, int person) {
        // none stands ahead of the first, however many LOTS there are; where they end only the count tells
        int bar = barOfWorlds(isPerson(person) && i >= 0);
        if (bar != FINE) {
            return refuse(bar);
        }
        if (i >= census.count) {
            return refuse(NO_SUCH);
        }
        return answer(current.spanIn(census.numberOf(i), person));
    }

    public long weights() {
        int bar = barOfWorlds(hasParish);
        if (bar != FINE) {
            return refuse(bar);
        }
        refusal = FINE;
        return census.weight;
    }

    public int having(int person, int i) {
        int bar = barOfWorlds(isSpan(person, i));
        if (bar != FINE) {
            return refuse(bar);
        }
        return answer(census.holding[person][i]);
    }

    public int times(int person, int hour) {
        int bar = barOfWorlds(isPerson(person) && isHour(hour));
        if (bar != FINE) {
            return refuse(bar);
        }
        return answer(census.countAwake(current, person, hour));
    }

    public int sure(int person, int hour) {
        int bar = barOfSome(isPerson(person) && isHour(hour));
        if (bar != FINE) {
            return refuse(bar);
        }
        return answer(census.sureness(current, person, hour));
    }

    public int surely(int hour, boolean isAwake) {
        int bar = barOfSome(isHour(hour));
        if (bar != FINE) {
            return refuse(bar);
        }
        int wanted = isAwake ? 2 : 0;
        int bits = 0;
        for (int person = 0; person < current.people; person++) {
            if (census.sureness(current, person, hour) == wanted) {
                bits |= 1 << person;
            }
        }
        return answer(bits);
    }

    public int chance(int person, int hour) {
        int bar = barOfSome(isPerson(person) && isHour(hour));
        if (bar != FINE) {
            return refuse(bar);
        }
        return answer(census.hundredthsAwake(current, person, hour));
    }

    public int likeliest(int person) {
        int bar = barOfSome(isPerson(person));
        if (bar != FINE) {
            return refuse(bar);
        }
        return answer(current.spanIn(census.bestNumber, person));
    }

    public long greatest() {
        int bar = barOfSome(hasParish);
        if (bar != FINE) {
            return refuse(bar);
        }
        refusal = FINE;
        return census.bestWeight;
    }

    public int together(int person, int other) {
        int bar = barOfWorlds(isPerson(person) && isPerson(other) && person != other);
        if (bar != FINE) {
            return refuse(bar);
        }
        return answer(census.bothAwake(current, person, other));
    }

    public long possible(int person) {
        int bar = barOfWorlds(isPerson(person));
        if (bar != FINE) {
            return refuse(bar);
        }
        refusal = FINE;
        return census.spansHeld(current, person);
    }

    public int hiding(int person, int hour) {
        int bar = barOfWorlds(isPerson(person) && isHour(hour));
        if (bar != FINE) {
            return refuse(bar);
        }
        return answer(census.awakeBeside(current, person, hour));
    }

    public int bed(int person, boolean most) {
        int bar = barOfSome(isPerson(person));
        if (bar != FINE) {
            return refuse(bar);
        }
        return answer(census.outermost(current.persons[person].bedAt, person, most));
    }

    public int sleeps(int person, boolean most) {
        int bar = barOfSome(isPerson(person));
        if (bar != FINE) {
            return refuse(bar);
        }
        return answer(census.outermost(current.persons[person].sleepsFor, person, most));
    }

    // ---- asking, lies, proofs

    public int ask() {
        int bar = barOfAsking(hasParish);
        if (bar != FINE) {
            return refuse(bar);
        }
        return answer(asking.fewestForAll(current, census));
    }

    public int askFor(int hour) {
        int bar = barOfAsking(isHour(hour));
        if (bar != FINE) {
            return refuse(bar);
        }
        return answer(asking.fewestForHour(current, census, hour));
    }

    public int lie(int told) {
        int bar = barOfWorlds(isTold(told));
        if (bar != FINE) {
            return refuse(bar);
        }
        return answer(census.hasTold(current, told) ? 0 : 1);
    }

    public int bars(int told) {
        int bar = barOfLots(isTold(told));
        if (bar != FINE) {
            return refuse(bar);
        }
        return answer(grounds.barringHour(current, walk, told));
    }

    public int proof() {
        if (!hasParish) {
            return refuse(NO_SUCH);
        }
        if (current.lotCount > PROOF_ROOM) {
            return refuse(NO_ROOM);
        }
        census.renew(current, walk);
        if (census.count > 0) {
            return refuse(NOT_SO);
        }
        return answer(grounds.fewestHours(current, walk));
    }

    // ---- beside, nothing, keep, quiet

    public int part(int hour, boolean most) {
        int bar = barOfSome(isHour(hour) && current.strokes[hour] >= 0);
        if (bar != FINE) {
            refusal = bar;
            return FAR_BELOW;
        }
        int due = most ? census.leastDue[hour] : census.mostDue[hour];
        return answer(current.strokes[hour] - due);
    }

    public int nothing() {
        int bar = barOfLots(hasParish);
        if (bar != FINE) {
            return refuse(bar);
        }
        int bits = 0;
        walk.toFirst(current);
        for (int number = 0; number < current.lotCount && number < LOT_ROOM; number++) {
            if (!walk.isQuarrel()) {
                bits |= walk.silentHours(current);
            }
            walk.step(current);
        }
        return answer(bits);
    }

    public int keep() {
        if (!hasParish) {
            return refuse(NO_SUCH);
        }
        return answer(current.fewestOffers());
    }

    public int quiet(int k) {
        if (!hasParish) {
            return refuse(NO_SUCH);
        }
        if (k < 0 || k > MOST_STRUCK) {
            return refuse(BAD_NUMBER);
        }
        return answer(current.hoursStruckUpTo(k));
    }

    // ---- an hour more

    public int strike(int hour, int many) {
        if (!isHour(hour)) {
            return refuse(NO_SUCH);
        }
        if (many < 0 || many > MOST_STRUCK) {
            return refuse(BAD_NUMBER);
        }
        current.setStroke(hour, many);
        census.forget();
        return answer(current.struckCount);
    }

    public boolean still(int hour) {
        if (!isHour(hour) || current.strokes[hour] < 0) {
            return deny(NO_SUCH);
        }
        current.setStroke(hour, WITHOUT);
        census.forget();
        return grant();
    }

    public int struck(int hour) {
        if (!isHour(hour)) {
            return refuse(NO_SUCH);
        }
        return answer(current.strokes[hour]);
    }

    // ---- one by one

    public int seek() {
        int bar = barOfWorlds(hasParish);
        if (bar != FINE) {
            return refuse(bar);
        }
        int number = census.nextFrom(current.cursor, current);
        if (number < 0) {
            return refuse(THERE_IS_NONE);
        }
        current.cursor = number + 1;
        return answer(number);
    }

    public int lot(int number, int person) {
        int bar = barOfLots(isPerson(person) && number >= 0 && number < current.lotCount);
        if (bar != FINE) {
            return refuse(bar);
        }
        return answer(current.spanIn(number, person));
    }

    public boolean again() {
        if (!hasParish) {
            return deny(NO_SUCH);
        }
        current.cursor = 0;
        return grant();
    }

    public long image() {
        if (!hasParish) {
            return refuse(NO_SUCH);
        }
        refusal = FINE;
        return current.picture();
    }

    public boolean restore(long image) {
        if (!hasParish) {
            return deny(NO_SUCH);
        }
        if (!current.isPicture(image)) {
            return deny(BAD_NUMBER);
        }
        current.takePicture(image);
        return grant();
    }

    public int led(int i) throws NoSuchElementException {
        int found = 0;
        for (int person = 0; person < current.people; person++) {
            if (current.persons[person].isAway) {
                if (found == i) {
                    return person;
                }
                found++;
            }
        }
        throw new NoSuchElementException("there is no such person away");
    }

    public int size(int what) {
        switch (what) {
            case 0: return current.people;
            case 1: return current.pairs;
            case 2: return current.born;
            case 3: return current.struckCount;
            case 4: return current.told;
            case 5: return current.offers;
            case 6: return current.hours;
            // -2 tells of a PARISH without one; without a PARISH there isn't even that
            case 7: return hasParish ? current.sexton : 0;
            case 8: return current.cursor;
            case 9: return taped;
            default: return NONE;
        }
    }

    public int trouble() {
        return refusal;
    }

    // ---- what the calls share

    private void putOnTape(int number) {
        for (int shift = 24; shift >= 0 && taped < TAPE_ROOM; shift -= 8) {
            tape[taped] = (byte) (number >> shift);
            taped++;
        }
    }

    private int answer(int value) {
        refusal = FINE;
        return value;
    }

    private int refuse(int number) {
        refusal = number;
        return NONE;
    }

    private boolean grant() {
        refusal = FINE;
        return true;
    }

    private boolean deny(int number) {
        refusal = number;
        return false;
    }

    private boolean isPerson(int person) {
        return person >= 0 && person < current.people;
    }

    private boolean isSpan(int person, int i) {
        return isPerson(person) && i >= 0 && i < current.persons[person].spanCount;
    }

    private boolean isHour(int hour) {
        return hour >= 0 && hour < current.hours;
    }

    private boolean isTold(int told) {
        return told >= 0 && told < current.told;
    }

    /** Why what is SAID can't be asked of; the walk stands on it if it can. */
    private int barOfSaid(boolean isThere) {
        if (!isThere) {
            return NO_SUCH;
        }
        if (current.lotCount == 0) {
            return NOT_SO;
        }
        walk.toSaid(current);
        return FINE;
    }

    private int barOfLots(boolean isThere) {
        if (!isThere) {
            return NO_SUCH;
        }
        return current.lotCount > LOT_ROOM ? NO_ROOM : FINE;
    }

    /** Why WORLDS can't be asked of; they are counted if they can. */
    private int barOfWorlds(boolean isThere) {
        int bar = barOfLots(isThere);
        if (bar == FINE) {
            census.renew(current, walk);
        }
        return bar;
    }

    private int barOfSome(boolean isThere) {
        int bar = barOfWorlds(isThere);
        return bar == FINE && census.count == 0 ? THERE_IS_NONE : bar;
    }

    private int barOfAsking(boolean isThere) {
        int bar = barOfWorlds(isThere);
        if (bar != FINE) {
            return bar;
        }
        if (census.count > ASK_ROOM) {
            return NO_ROOM;
        }
        return census.count == 0 ? THERE_IS_NONE : FINE;
    }

    private static boolean hasBit(int bits, int place) {
        return (bits >> place & 1) != 0;
    }

    /** The bits of HOURS from one up to the one ahead of another. */
    private static int hourBits(int from, int to) {
        // as long: sleep may go on far behind HOUR 31
        return (int) ((1L << to) - (1L << from)) & (1 << HOUR_ROOM) - 1;
    }

    /** The WORDS that are no NAMES: those that begin LINES, with room for so many, and three that don't. */
    private enum Reserved {
        LAW("law", 1), PERSON("person", PEOPLE_ROOM), SEXTON("sexton", 1), APART("apart", APART_ROOM),
        BORN("born", BORN_ROOM), STRUCK("struck", HOUR_ROOM), TOLD("told", TOLD_ROOM),
        OFFER("offer", OFFER_ROOM), HABIT("habit", 0), NAP("nap", 0), AWAY("away", 0);

        final String word;
        final int room;

        Reserved(String word, int room) {
            this.word = word;
            this.room = room;
        }
    }

    /** THE TAPE's bytes as TOKENS, one at a time. */
    private static final class Tokens {
        static final int END = 0;
        static final int WORD = 1;
        static final int WHOLE = 2;
        static final int SEMICOLON = 3;
        static final int COMMA = 4;
        static final int NO_TOKEN = 5;
        private static final int MOST_LETTERS = 8;
        private static final int MOST_DIGITS = 3;
        /** Eight letters fill 40 bits of a key, so that each WORD has one of its own. */
        private static final int LETTERS = 32;

        private byte[] bytes = new byte[0];
        private int length;
        private int ahead;
        int kind;
        int place;
        int value;
        long key;

        void begin(byte[] text, int textLength) {
            bytes = text;
            length = Math.min(textLength, text.length);
            ahead = 0;
            advance();
        }

        void advance() {
            int at = ahead;
            while (at < length && bytes[at] == ' ') {
                at++;
            }
            place = at;
            key = 0;
            while (at < length && bytes[at] >= 'a' && bytes[at] <= 'z') {
                key = key * LETTERS + (bytes[at] - 'a' + 1);
                at++;
            }
            int letters = at - place;
            value = 0;
            while (at < length && letters == 0 && bytes[at] >= '0' && bytes[at] <= '9') {
                value = value * 10 + (bytes[at] - '0');
                at++;
            }
            int digits = at - place - letters;
            // what stands together is one TOKEN or none: a longer row isn't parted
            if (letters > 0) {
                kind = letters <= MOST_LETTERS ? WORD : NO_TOKEN;
            } else if (digits > 0) {
                kind = digits <= MOST_DIGITS ? WHOLE : NO_TOKEN;
            } else if (at < length) {
                kind = bytes[at] == ';' ? SEMICOLON : bytes[at] == ',' ? COMMA : NO_TOKEN;
                at++;
            } else {
                kind = END;
            }
            ahead = at;
        }

        boolean isWord(String text) {
            if (kind != WORD) {
                return false;
            }
            long wanted = 0;
            for (int i = 0; i < text.length(); i++) {
                wanted = wanted * LETTERS + (text.charAt(i) - 'a' + 1);
            }
            return wanted == key;
        }
    }

    /** Reads a text from the left into a draft of a PARISH and stops at the first FAULT. */
    private static final class Reader {
        private static final int FORM = 1;
        private static final int NOT_TOLD = 2;
        private static final int TOLD_AGAIN = 3;
        private static final int OUT_OF_BOUNDS = 4;
        private static final int MANY = 5;
        private static final int LACKS = 6;
        private static final int LATEST_HOUR = HOUR_ROOM - 1;
        private static final int LONGEST = 12;

        private final Tokens tokens = new Tokens();
        private int from;
        private int to;
        int fault;
        int place;

        boolean reads(byte[] text, int length, Parish draft) {
            fault = 0;
            place = NONE;
            draft.clear();
            tokens.begin(text, length);
            // each LINE but the last has a byte of its own at least, its ;
            for (int line = 0; line <= TAPE_ROOM; line++) {
                if (!readsLine(draft)) {
                    return false;
                }
                if (tokens.kind == Tokens.END) {
                    return draft.hours > 0 && draft.people > 0 || fail(LACKS);
                }
                if (!takes(Tokens.SEMICOLON)) {
                    return false;
                }
            }
            return fail(FORM);
        }

        private boolean readsLine(Parish draft) {
            Reserved sort = reserved();
            if (sort == null || sort.room == 0) {
                return fail(FORM);
            }
            if (draft.linesOf(sort) >= sort.room) {
                boolean isSingle = sort == Reserved.LAW || sort == Reserved.SEXTON;
                return fail(isSingle ? TOLD_AGAIN : MANY);
            }
            tokens.advance();
            switch (sort) {
                case LAW: return readsLaw(draft);
                case PERSON: return readsPerson(draft) && readsCustoms(draft);
                case SEXTON: return readsSexton(draft);
                case APART: return readsApart(draft);
                case BORN: return readsBorn(draft);
                case STRUCK: return readsStruck(draft);
                case TOLD: return readsTold(draft);
                case OFFER: return readsOffer(draft);
                default: return fail(FORM);
            }
        }

        private boolean readsLaw(Parish draft) {
            int hours = takesWord("hours") ? whole(1, HOUR_ROOM) : NONE;
            int beside = hours >= 0 && takesWord("beside") ? whole(0, 9) : NONE;
            int off = beside >= 0 && takesWord("off") ? whole(0, 3) : NONE;
            if (off < 0) {
                return false;
            }
            draft.hours = hours;
            draft.beside = beside;
            draft.off = off;
            return true;
        }

        private boolean readsPerson(Parish draft) {
            if (!isName()) {
                return fail(FORM);
            }
            if (draft.personNamed(tokens.key) >= 0) {
                return fail(TOLD_AGAIN);
            }
            Person person = draft.persons[draft.people];
            person.clear(tokens.key);
            tokens.advance();
            if (!takesWord("bed") || !takesRange(LATEST_HOUR, 0, 7, LATEST_HOUR)) {
                return false;
            }
            person.bedFrom = from;
            person.bedTo = to;
            if (!takesWord("long") || !takesRange(LONGEST, 0, 4, LONGEST)) {
                return false;
            }
            person.longFrom = from;
            person.longTo = to;
            return true;
        }

        private boolean readsCustoms(Parish draft) {
            Person person = draft.persons[draft.people];
            if (tokens.isWord(Reserved.HABIT.word)) {
                tokens.advance();
                person.habit = whole(0, LATEST_HOUR);
                if (person.habit < 0) {
                    return false;
                }
            }
            if (tokens.isWord(Reserved.NAP.word)) {
                tokens.advance();
                if (!takesRange(LATEST_HOUR, 1, HOUR_ROOM, HOUR_ROOM)) {
                    return false;
                }
                person.napHours = hourBits(from, to);
            }
            if (tokens.isWord(Reserved.AWAY.word)) {
                tokens.advance();
                person.isAway = true;
            }
            draft.people++;
            return true;
        }

        private boolean readsSexton(Parish draft) {
            int person = knownPerson(draft);
            if (person < 0) {
                return false;
            }
            tokens.advance();
            draft.sexton = person;
            return true;
        }

        private boolean readsApart(Parish draft) {
            int first = knownPerson(draft);
            if (first < 0) {
                return false;
            }
            tokens.advance();
            if (!takes(Tokens.COMMA)) {
                return false;
            }
            int second = knownPerson(draft);
            if (second < 0) {
                return false;
            }
            if (second == first || hasBit(draft.persons[first].apartFrom, second)) {
                return fail(TOLD_AGAIN);
            }
            tokens.advance();
            draft.persons[first].apartFrom |= 1 << second;
            draft.persons[second].apartFrom |= 1 << first;
            draft.pairs++;
            return true;
        }

        private boolean readsBorn(Parish draft) {
            int hour = whole(0, LATEST_HOUR);
            if (hour < 0) {
                return false;
            }
            draft.bornIn[draft.born] = hour;
            draft.born++;
            return true;
        }

        private boolean readsStruck(Parish draft) {
            // looked at ahead of whole(), for the FAULT stands at this TOKEN
            if (tokens.kind == Tokens.WHOLE && draft.isStruck(tokens.value)) {
                return fail(TOLD_AGAIN);
            }
            int hour = whole(0, LATEST_HOUR);
            int many = hour >= 0 && takesWord("is") ? whole(0, MOST_STRUCK) : NONE;
            if (many < 0) {
                return false;
            }
            draft.setStroke(hour, many);
            return true;
        }

        private boolean readsTold(Parish draft) {
            int person = knownPerson(draft);
            if (person < 0) {
                return false;
            }
            tokens.advance();
            if (!takesRange(LATEST_HOUR, 1, HOUR_ROOM, HOUR_ROOM)) {
                return false;
            }
            draft.toldOf[draft.told] = person;
            draft.toldHours[draft.told] = hourBits(from, to);
            draft.told++;
            return true;
        }

        private boolean readsOffer(Parish draft) {
            if (knownPerson(draft) < 0) {
                return false;
            }
            tokens.advance();
            if (!takesRange(LATEST_HOUR, 1, HOUR_ROOM, HOUR_ROOM)) {
                return false;
            }
            draft.offeredHours[draft.offers] = hourBits(from, to);
            draft.offers++;
            return true;
        }

        private boolean fail(int number) {
            fault = number;
            place = tokens.place;
            return false;
        }

        private Reserved reserved() {
            for (int i = 0; i < RESERVED.length; i++) {
                if (tokens.isWord(RESERVED[i].word)) {
                    return RESERVED[i];
                }
            }
            return null;
        }

        private boolean isName() {
            return tokens.kind == Tokens.WORD && reserved() == null;
        }

        /** The person whose NAME stands here; it isn't gone past, for the caller may find a FAULT at it. */
        private int knownPerson(Parish draft) {
            if (!isName()) {
                fail(FORM);
                return NONE;
            }
            int person = draft.personNamed(tokens.key);
            if (person < 0) {
                fail(NOT_TOLD);
            }
            return person;
        }

        private boolean takes(int kind) {
            if (tokens.kind != kind) {
                return fail(FORM);
            }
            tokens.advance();
            return true;
        }

        private boolean takesWord(String word) {
            if (!tokens.isWord(word)) {
                return fail(FORM);
            }
            tokens.advance();
            return true;
        }

        private int whole(int least, int most) {
            if (tokens.kind != Tokens.WHOLE) {
                fail(FORM);
                return NONE;
            }
            int value = tokens.value;
            if (value < least || value > most) {
                fail(OUT_OF_BOUNDS);
                return NONE;
            }
            tokens.advance();
            return value;
        }

        private boolean takesRange(int mostFrom, int leastMore, int mostMore, int mostTo) {
            from = whole(0, mostFrom);
            if (from < 0 || !takesWord("to")) {
                return false;
            }
            to = whole(from + leastMore, Math.min(from + mostMore, mostTo));
            return to >= 0;
        }
    }

    /** One of the people, with its SPANS. */
    private static final class Person {
        private static final int WITHOUT_HABIT = -1;
        private static final int GREATEST_WEIGHT = 10;

        final int[] bedAt = new int[SPAN_ROOM];
        final int[] sleepsFor = new int[SPAN_ROOM];
        final int[] asleepIn = new int[SPAN_ROOM];
        final int[] awakeIn = new int[SPAN_ROOM];
        final long[] earlyTally = new long[SPAN_ROOM];
        final long[] lateTally = new long[SPAN_ROOM];
        long name;
        int bedFrom;
        int bedTo;
        int longFrom;
        int longTo;
        int habit;
        int napHours;
        boolean isAway;
        int apartFrom;
        int spanCount;
        int saidSpan;
        /** By how much the number of a LOT grows with each SPAN of this person. */
        int stride;

        void clear(long newName) {
            name = newName;
            habit = WITHOUT_HABIT;
            napHours = 0;
            isAway = false;
            apartFrom = 0;
            spanCount = 0;
            saidSpan = 0;
            stride = 0;
        }

        void makeSpans(int allHours, int watchedHours) {
            if (isAway) {
                addSpan(0, 0, 0, 0);
                return;
            }
            for (int b = bedFrom; b <= bedTo; b++) {
                for (int l = longFrom; l <= longTo; l++) {
                    int asleep = (hourBits(b, b + l) | napHours) & allHours;
                    if ((asleep & watchedHours) == 0) {
                        addSpan(b, l, asleep, allHours & ~asleep);
                    }
                }
            }
        }

        private void addSpan(int b, int l, int asleep, int awake) {
            if (spanCount >= SPAN_ROOM) {
                return;
            }
            bedAt[spanCount] = b;
            sleepsFor[spanCount] = l;
            asleepIn[spanCount] = asleep;
            awakeIn[spanCount] = awake;
            earlyTally[spanCount] = Walk.tallyOf(awake);
            lateTally[spanCount] = Walk.tallyOf(awake >> Walk.TALLY_HOURS);
            spanCount++;
        }

        int weightOf(int i) {
            if (habit == WITHOUT_HABIT) {
                return 1;
            }
            return Math.max(1, GREATEST_WEIGHT - Math.abs(bedAt[i] - habit));
        }
    }

    /** What a text tells, with what is struck, SAID and sought since. */
    private static final class Parish {
        static final int AGREED = 0;
        static final int OFF_BY_ONE = 1;
        static final int DISAGREED = 2;
        private static final int PICTURE_BASE = 40;

        final Person[] persons = new Person[PEOPLE_ROOM];
        final int[] strokes = new int[HOUR_ROOM];
        final int[] struckHours = new int[HOUR_ROOM];
        final int[] bornIn = new int[BORN_ROOM];
        final int[] toldOf = new int[TOLD_ROOM];
        final int[] toldHours = new int[TOLD_ROOM];
        final int[] offeredHours = new int[OFFER_ROOM];
        int hours;
        int beside;
        int off;
        int people;
        int pairs;
        int born;
        int told;
        int offers;
        int sexton;
        int struckCount;
        int cursor;
        long lotCount;

        Parish() {
            for (int i = 0; i < PEOPLE_ROOM; i++) {
                persons[i] = new Person();
            }
            for (int hour = 0; hour < HOUR_ROOM; hour++) {
                strokes[hour] = WITHOUT;
            }
            sexton = WITHOUT;
        }

        void clear() {
            hours = 0;
            beside = 0;
            off = 0;
            people = 0;
            pairs = 0;
            born = 0;
            told = 0;
            offers = 0;
            sexton = WITHOUT;
            struckCount = 0;
            cursor = 0;
            lotCount = 0;
            for (int hour = 0; hour < HOUR_ROOM; hour++) {
                strokes[hour] = WITHOUT;
            }
        }

        int linesOf(Reserved sort) {
            switch (sort) {
                case LAW: return hours > 0 ? 1 : 0;
                case PERSON: return people;
                case SEXTON: return sexton >= 0 ? 1 : 0;
                case APART: return pairs;
                case BORN: return born;
                case STRUCK: return struckCount;
                case TOLD: return told;
                case OFFER: return offers;
                default: return 0;
            }
        }

        int personNamed(long name) {
            for (int i = 0; i < people; i++) {
                if (persons[i].name == name) {
                    return i;
                }
            }
            return NONE;
        }

        boolean isStruck(int hour) {
            return hour >= 0 && hour < HOUR_ROOM && strokes[hour] >= 0;
        }

        void setStroke(int hour, int many) {
            strokes[hour] = many;
            listStruck();
        }

        private void listStruck() {
            struckCount = 0;
            for (int hour = 0; hour < HOUR_ROOM; hour++) {
                if (strokes[hour] >= 0) {
                    struckHours[struckCount] = hour;
                    struckCount++;
                }
            }
        }

        int allHours() {
            return hourBits(0, hours);
        }

        /** Once all LINES are read: what is told of no HOUR goes, and SPANS are made. */
        void settle() {
            int all = allHours();
            for (int hour = hours; hour < HOUR_ROOM; hour++) {
                strokes[hour] = WITHOUT;
            }
            listStruck();
            for (int i = 0; i < told; i++) {
                toldHours[i] &= all;
            }
            for (int i = 0; i < offers; i++) {
                offeredHours[i] &= all;
            }
            lotCount = 1;
            for (int i = people - 1; i >= 0; i--) {
                persons[i].makeSpans(all, i == sexton ? hoursStruckUpTo(MOST_STRUCK) : 0);
                persons[i].stride = (int) lotCount;
                lotCount *= persons[i].spanCount;
            }
        }

        int hoursStruckUpTo(int many) {
            int bits = 0;
            for (int k = 0; k < struckCount; k++) {
                if (strokes[struckHours[k]] <= many) {
                    bits |= 1 << struckHours[k];
                }
            }
            return bits;
        }

        int verdict(int hour, int due) {
            int stroke = strokes[hour];
            if (stroke < 0 || stroke >= due && stroke <= due + beside) {
                return AGREED;
            }
            return stroke == due - 1 || stroke == due + beside + 1 ? OFF_BY_ONE : DISAGREED;
        }

        int spanIn(int number, int person) {
            int stride = persons[person].stride;
            int count = persons[person].spanCount;
            if (stride <= 0 || count <= 0) {
                return NONE;
            }
            return number / stride % count;
        }

        int fewestOffers() {
            int all = allHours();
            for (int many = 1; many <= offers; many++) {
                for (int bits = 1; bits < 1 << offers; bits++) {
                    if (Integer.bitCount(bits) == many && hoursOffered(bits) == all) {
                        return bits;
                    }
                }
            }
            return WITHOUT;
        }

        private int hoursOffered(int bits) {
            int watched = 0;
            for (int i = 0; i < offers; i++) {
                if (hasBit(bits, i)) {
                    watched |= offeredHours[i];
                }
            }
            return watched;
        }

        long picture() {
            long image = cursor;
            for (int i = 0; i < people; i++) {
                image = image * PICTURE_BASE + persons[i].saidSpan;
            }
            return image;
        }

        boolean isPicture(long image) {
            long rest = image;
            for (int i = people - 1; i >= 0; i--) {
                long span = rest % PICTURE_BASE;
                // 0 is SAID of one without SPANS, too
                if (span != 0 && span >= persons[i].spanCount) {
                    return false;
                }
                rest /= PICTURE_BASE;
            }
            return image >= 0 && rest <= LOT_ROOM;
        }

        void takePicture(long image) {
            long rest = image;
            for (int i = people - 1; i >= 0; i--) {
                persons[i].saidSpan = (int) (rest % PICTURE_BASE);
                rest /= PICTURE_BASE;
            }
            cursor = (int) rest;
        }
    }

    /**
     * Stands on one LOT after the other. What the first people bring is kept for each of them, so that a step
     * counts anew only those whose SPANS changed. A tally has four bits for each of twelve HOURS: STRIKES is
     * nine at most.
     */
    private static final class Walk {
        static final int NEVER = HOUR_ROOM;
        static final int TALLY_HOURS = 12;
        private static final int TALLY_BITS = 4;

        private final int[] picks = new int[PEOPLE_ROOM];
        private final long[] early = new long[PEOPLE_ROOM + 1];
        private final long[] late = new long[PEOPLE_ROOM + 1];
        private final int[] filledHours = new int[PEOPLE_ROOM + 1];
        private final int[] quarrelHours = new int[PEOPLE_ROOM + 1];
        private int people;

        static long tallyOf(int bits) {
            long tally = 0;
            for (int i = 0; i < TALLY_HOURS; i++) {
                tally |= (bits >> i & 1L) << i * TALLY_BITS;
            }
            return tally;
        }

        void toFirst(Parish parish) {
            for (int i = 0; i < PEOPLE_ROOM; i++) {
                picks[i] = 0;
            }
            countBirths(parish);
            countFrom(parish, 0);
        }

        void toSaid(Parish parish) {
            for (int i = 0; i < parish.people; i++) {
                picks[i] = parish.persons[i].saidSpan;
            }
            countBirths(parish);
            countFrom(parish, 0);
        }

        /** To the next LOT; behind the last, to the first. */
        void step(Parish parish) {
            int changed = 0;
            for (int i = people - 1; i >= 0; i--) {
                picks[i]++;
                if (picks[i] < parish.persons[i].spanCount) {
                    changed = i;
                    break;
                }
                picks[i] = 0;
            }
            countFrom(parish, changed);
        }

        private void countBirths(Parish parish) {
            people = parish.people;
            early[0] = 0;
            late[0] = 0;
            filledHours[0] = 0;
            for (int i = 0; i < parish.born; i++) {
                int bits = hourBits(parish.bornIn[i], HOUR_ROOM);
                early[0] += tallyOf(bits);
                late[0] += tallyOf(bits >> TALLY_HOURS);
                filledHours[0] |= bits;
            }
        }

        private void countFrom(Parish parish, int first) {
            for (int i = first; i < people; i++) {
                Person person = parish.persons[i];
                int pick = picks[i];
                early[i + 1] = early[i] + person.earlyTally[pick];
                late[i + 1] = late[i] + person.lateTally[pick];
                filledHours[i + 1] = filledHours[i] | person.awakeIn[pick];
                quarrelHours[i + 1] = quarrelHours[i] | quarrelsOf(parish, i);
            }
        }

        private int quarrelsOf(Parish parish, int person) {
            int apartFrom = parish.persons[person].apartFrom;
            int asleep = parish.persons[person].asleepIn[picks[person]];
            int bits = 0;
            for (int other = 0; other < person && apartFrom != 0; other++) {
                if ((apartFrom >> other & 1) != 0) {
                    bits |= asleep & parish.persons[other].asleepIn[picks[other]];
                }
            }
            return bits;
        }

        int pickOf(int person) {
            return picks[person];
        }

        boolean isQuarrel() {
            return quarrelHours[people] != 0;
        }

        int silentHours(Parish parish) {
            return parish.allHours() & ~filledHours[people];
        }

        /** STRIKES. */
        int strokesDue(int hour) {
            boolean isEarly = hour < TALLY_HOURS;
            long tally = isEarly ? early[people] : late[people];
            int place = isEarly ? hour : hour - TALLY_HOURS;
            return (int) (tally >> place * TALLY_BITS) & (1 << TALLY_BITS) - 1;
        }

        int wrongIn(Parish parish, int hour) {
            if (parish.verdict(hour, strokesDue(hour)) != Parish.AGREED) {
                return 1;
            }
            return hasBit(quarrelHours[people], hour) ? 2 : 0;
        }

        int firstWrong(Parish parish) {
            for (int hour = 0; hour < parish.hours; hour++) {
                if (wrongIn(parish, hour) != 0) {
                    return hour;
                }
            }
            return WITHOUT;
        }

        /** The first HOUR by whose strokes, with those ahead, this LOT is no WORLD; NEVER if it is by none. */
        int failsIn(Parish parish) {
            int offs = 0;
            for (int k = 0; k < parish.struckCount; k++) {
                int hour = parish.struckHours[k];
                int verdict = parish.verdict(hour, strokesDue(hour));
                if (verdict == Parish.OFF_BY_ONE) {
                    offs++;
                }
                if (verdict == Parish.DISAGREED || offs > parish.off) {
                    return hour;
                }
            }
            return NEVER;
        }

        boolean isWorld(Parish parish) {
            return !isQuarrel() && failsIn(parish) == NEVER;
        }
    }

    /** All WORLDS, counted once for all questions until something else is struck or told. */
    private static final class Census {
        private static final int MARKS = 64;

        private final long[] worldMarks = new long[LOT_ROOM / MARKS + 1];
        final int[][] holding = new int[PEOPLE_ROOM][SPAN_ROOM];
        private final long[][] weighing = new long[PEOPLE_ROOM][SPAN_ROOM];
        final int[] leastDue = new int[HOUR_ROOM];
        final int[] mostDue = new int[HOUR_ROOM];
        int count;
        long weight;
        int bestNumber;
        long bestWeight;
        private boolean isFresh;

        void forget() {
            isFresh = false;
        }

        void renew(Parish parish, Walk walk) {
            if (isFresh) {
                return;
            }
            clear();
            walk.toFirst(parish);
            for (int number = 0; number < parish.lotCount && number < LOT_ROOM; number++) {
                if (walk.isWorld(parish)) {
                    enter(parish, walk, number);
                }
                walk.step(parish);
            }
            isFresh = true;
        }

        private void clear() {
            for (int i = 0; i < worldMarks.length; i++) {
                worldMarks[i] = 0;
            }
            for (int person = 0; person < PEOPLE_ROOM; person++) {
                for (int i = 0; i < SPAN_ROOM; i++) {
                    holding[person][i] = 0;
                    weighing[person][i] = 0;
                }
            }
            count = 0;
            weight = 0;
            bestNumber = 0;
            bestWeight = 0;
        }

        private void enter(Parish parish, Walk walk, int number) {
            long lotWeight = 1;
            for (int person = 0; person < parish.people; person++) {
                lotWeight *= parish.persons[person].weightOf(walk.pickOf(person));
            }
            for (int person = 0; person < parish.people; person++) {
                holding[person][walk.pickOf(person)]++;
                weighing[person][walk.pickOf(person)] += lotWeight;
            }
            for (int k = 0; k < parish.struckCount; k++) {
                enterDue(parish.struckHours[k], walk.strokesDue(parish.struckHours[k]));
            }
            worldMarks[number / MARKS] |= 1L << number % MARKS;
            count++;
            weight += lotWeight;
            if (lotWeight > bestWeight) {
                bestWeight = lotWeight;
                bestNumber = number;
            }
        }

        private void enterDue(int hour, int due) {
            leastDue[hour] = count == 0 ? due : Math.min(leastDue[hour], due);
            mostDue[hour] = count == 0 ? due : Math.max(mostDue[hour], due);
        }

        private boolean isWorld(int number) {
            return (worldMarks[number / MARKS] >> number % MARKS & 1) != 0;
        }

        /** The first WORLD's number from one on, NONE behind the last. */
        int nextFrom(int start, Parish parish) {
            for (int number = start; number < parish.lotCount && number < LOT_ROOM; number++) {
                if (isWorld(number)) {
                    return number;
                }
            }
            return NONE;
        }

        int numberOf(int i) {
            int seen = 0;
            for (int number = 0; number < LOT_ROOM; number++) {
                if (isWorld(number)) {
                    if (seen == i) {
                        return number;
                    }
                    seen++;
                }
            }
            return 0;
        }

        int countAwake(Parish parish, int person, int hour) {
            Person someone = parish.persons[person];
            int sum = 0;
            for (int i = 0; i < someone.spanCount; i++) {
                if (hasBit(someone.awakeIn[i], hour)) {
                    sum += holding[person][i];
                }
            }
            return sum;
        }

        int sureness(Parish parish, int person, int hour) {
            int awake = countAwake(parish, person, hour);
            if (awake == 0) {
                return 0;
            }
            return awake == count ? 2 : 1;
        }

        int hundredthsAwake(Parish parish, int person, int hour) {
            Person someone = parish.persons[person];
            long sum = 0;
            for (int i = 0; i < someone.spanCount; i++) {
                if (hasBit(someone.awakeIn[i], hour)) {
                    sum += weighing[person][i];
                }
            }
            return weight > 0 ? (int) (sum * 100 / weight) : 0;
        }

        int bothAwake(Parish parish, int person, int other) {
            int bits = 0;
            for (int number = 0; number < parish.lotCount && number < LOT_ROOM; number++) {
                if (isWorld(number)) {
                    bits |= awakeHours(parish, number, person) & awakeHours(parish, number, other);
                }
            }
            return bits;
        }

        private static int awakeHours(Parish parish, int number, int person) {
            int span = parish.spanIn(number, person);
            return span < 0 ? 0 : parish.persons[person].awakeIn[span];
        }

        int awakeBeside(Parish parish, int person, int hour) {
            int bits = 0;
            for (int number = 0; number < parish.lotCount && number < LOT_ROOM; number++) {
                int span = isWorld(number) ? parish.spanIn(number, person) : NONE;
                if (span >= 0 && hasBit(parish.persons[person].asleepIn[span], hour)) {
                    bits |= peopleAwake(parish, number, hour);
                }
            }
            // one who is ASLEEP then isn't AWAKE, so that it never stands among the others
            return bits;
        }

        static int peopleAwake(Parish parish, int number, int hour) {
            int bits = 0;
            for (int person = 0; person < parish.people; person++) {
                if (hasBit(awakeHours(parish, number, person), hour)) {
                    bits |= 1 << person;
                }
            }
            return bits;
        }

        long spansHeld(Parish parish, int person) {
            long bits = 0;
            for (int i = 0; i < parish.persons[person].spanCount; i++) {
                if (holding[person][i] > 0) {
                    bits |= 1L << i;
                }
            }
            return bits;
        }

        /** The least or greatest of what a person's SPANS have in a row, by those held in some WORLD. */
        int outermost(int[] row, int person, boolean most) {
            int found = NONE;
            for (int i = 0; i < SPAN_ROOM && i < row.length; i++) {
                if (holding[person][i] > 0 && (found < 0 || (most ? row[i] > found : row[i] < found))) {
                    found = row[i];
                }
            }
            return found;
        }

        boolean hasTold(Parish parish, int told) {
            int person = parish.toldOf[told];
            int hours = parish.toldHours[told];
            Person someone = parish.persons[person];
            for (int i = 0; i < someone.spanCount; i++) {
                if (holding[person][i] > 0 && (someone.asleepIn[i] & hours) == hours) {
                    return true;
                }
            }
            return false;
        }
    }

    /** Whom to ask: WORLDS that look alike by the SPANS of those asked must bear one label. */
    private static final class Asking {
        private static final int SLOTS = 1024;

        private final int[] numbers = new int[ASK_ROOM];
        private final int[] labels = new int[ASK_ROOM];
        private final int[] looks = new int[ASK_ROOM];
        private final int[] slots = new int[SLOTS];
        private int count;

        int fewestForAll(Parish parish, Census census) {
            gather(parish, census);
            for (int i = 0; i < count; i++) {
                labels[i] = numbers[i];
            }
            return fewest(parish);
        }

        int fewestForHour(Parish parish, Census census, int hour) {
            gather(parish, census);
            for (int i = 0; i < count; i++) {
                labels[i] = Census.peopleAwake(parish, numbers[i], hour);
            }
            return fewest(parish);
        }

        private void gather(Parish parish, Census census) {
            count = 0;
            int number = census.nextFrom(0, parish);
            for (int i = 0; i < ASK_ROOM && number >= 0; i++) {
                numbers[i] = number;
                count++;
                number = census.nextFrom(number + 1, parish);
            }
        }

        private int fewest(Parish parish) {
            int everyone = (1 << parish.people) - 1;
            for (int many = 0; many < parish.people; many++) {
                for (int bits = 0; bits < everyone; bits++) {
                    if (Integer.bitCount(bits) == many && tells(parish, bits)) {
                        return bits;
                    }
                }
            }
            return everyone;
        }

        private boolean tells(Parish parish, int asked) {
            for (int slot = 0; slot < SLOTS; slot++) {
                slots[slot] = NONE;
            }
            for (int i = 0; i < count; i++) {
                looks[i] = lookOf(parish, numbers[i], asked);
                int slot = slotOf(looks[i]);
                if (slots[slot] < 0) {
                    slots[slot] = i;
                } else if (labels[slots[slot]] != labels[i]) {
                    return false;
                }
            }
            return true;
        }

        /** The number of the LOT in which all who aren't asked have their first SPAN. */
        private static int lookOf(Parish parish, int number, int asked) {
            int look = 0;
            for (int person = 0; person < parish.people; person++) {
                if (hasBit(asked, person)) {
                    look += parish.spanIn(number, person) * parish.persons[person].stride;
                }
            }
            return look;
        }

        /** Where a look is kept, or would be: there are more slots than WORLDS, so that one is free. */
        private int slotOf(int look) {
            int slot = look & SLOTS - 1;
            for (int tries = 0; tries < SLOTS; tries++) {
                if (slots[slot] < 0 || looks[slots[slot]] == look) {
                    return slot;
                }
                slot = slot + 1 & SLOTS - 1;
            }
            return slot;
        }
    }

    /** By which HOURS' strokes it can't be. */
    private static final class Grounds {
        private static final int OFF_SHIFT = 32;

        /** For each LOT without a quarrel: HOURS that DISAGREE, and those OFF above them. */
        private final long[] flaws = new long[PROOF_ROOM];
        private int count;
        private int latestLeft;

        int barringHour(Parish parish, Walk walk, int told) {
            Person person = parish.persons[parish.toldOf[told]];
            int hours = parish.toldHours[told];
            int latest = FAR_BELOW;
            walk.toFirst(parish);
            for (int number = 0; number < parish.lotCount && number < LOT_ROOM; number++) {
                int asleep = person.asleepIn[walk.pickOf(parish.toldOf[told])];
                if (!walk.isQuarrel() && (asleep & hours) == hours) {
                    int hour = walk.failsIn(parish);
                    if (hour == Walk.NEVER) {
                        return WITHOUT;
                    }
                    latest = Math.max(latest, hour);
                }
                walk.step(parish);
            }
            return latest;
        }

        int fewestHours(Parish parish, Walk walk) {
            gather(parish, walk);
            if (count == 0) {
                return 0;
            }
            int bits = oneHour(parish);
            if (bits == WITHOUT) {
                bits = twoHours(parish);
            }
            return bits == WITHOUT ? threeHours(parish) : bits;
        }

        private void gather(Parish parish, Walk walk) {
            count = 0;
            latestLeft = 0;
            walk.toFirst(parish);
            for (int number = 0; number < parish.lotCount && number < PROOF_ROOM; number++) {
                if (!walk.isQuarrel()) {
                    flaws[count] = flawsOf(parish, walk);
                    count++;
                }
                walk.step(parish);
            }
        }

        private static long flawsOf(Parish parish, Walk walk) {
            long bits = 0;
            for (int k = 0; k < parish.struckCount; k++) {
                int hour = parish.struckHours[k];
                int verdict = parish.verdict(hour, walk.strokesDue(hour));
                if (verdict == Parish.DISAGREED) {
                    bits |= 1L << hour;
                } else if (verdict == Parish.OFF_BY_ONE) {
                    bits |= 1L << hour + OFF_SHIFT;
                }
            }
            return bits;
        }

        // the latest HOUR changes last in these three, so that of like many the least bits come first

        private int oneHour(Parish parish) {
            for (int a = 0; a < parish.struckCount; a++) {
                int bits = 1 << parish.struckHours[a];
                if (leavesNone(parish, bits)) {
                    return bits;
                }
            }
            return WITHOUT;
        }

        private int twoHours(Parish parish) {
            for (int a = 1; a < parish.struckCount; a++) {
                for (int b = 0; b < a; b++) {
                    int bits = 1 << parish.struckHours[a] | 1 << parish.struckHours[b];
                    if (leavesNone(parish, bits)) {
                        return bits;
                    }
                }
            }
            return WITHOUT;
        }

        private int threeHours(Parish parish) {
            for (int a = 2; a < parish.struckCount; a++) {
                for (int b = 1; b < a; b++) {
                    for (int c = 0; c < b; c++) {
                        int two = 1 << parish.struckHours[a] | 1 << parish.struckHours[b];
                        int bits = two | 1 << parish.struckHours[c];
                        if (leavesNone(parish, bits)) {
                            return bits;
                        }
                    }
                }
            }
            return WITHOUT;
        }

        private boolean leavesNone(Parish parish, int hours) {
            // what some HOURS left, others mostly leave, too: it is looked at first
            if (latestLeft < count && isLeft(parish, flaws[latestLeft], hours)) {
                return false;
            }
            for (int i = 0; i < count; i++) {
                if (isLeft(parish, flaws[i], hours)) {
                    latestLeft = i;
                    return false;
                }
            }
            return true;
        }

        private static boolean isLeft(Parish parish, long flaw, int hours) {
            int disagreed = (int) flaw & hours;
            int offs = (int) (flaw >> OFF_SHIFT) & hours;
            return disagreed == 0 && Integer.bitCount(offs) <= parish.off;
        }
    }
}
