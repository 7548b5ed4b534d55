/**
 * Words that fall when one dies whose name they sound like, and what can still be said.
 *
 * <p>WORDS, PERSONS and MEANINGS are few, so a set of WORDS or of PERSONS is the bits of an int
 * (bit n: the one of number n); a NAME is its letters packed into a long. All rows are made with
 * the object and used again, as no call may make anything that stays.
 */
public final class NameFall {
    public static final int NONE = -1;

    private static final int NONE_IS_BARRED = -2;
    private static final int SPENT = -2;
    private static final int NO_HURT = -1000;
    private static final int COMES_BACK = 3;

    private static final int TAPE_BYTES = 1600;
    private static final int FEED_BYTES = 20;
    private static final int LAST_YEAR = 199;
    private static final int NO_YEAR = 1000;
    private static final int LATEST_BIRTH = 150;
    private static final int LONGEST_STEP = 1000;
    private static final int LAST_TIME = 100000;
    private static final int MOST_ODDS = 10;

    private static final int MOST_PLACES = 4;
    private static final int MOST_MEANINGS = 8;
    private static final int MOST_WORDS = 24;
    private static final int MOST_TURNS = 10;
    private static final int MOST_PERSONS = 12;
    private static final int MOST_TALKS = 20;
    private static final int MOST_DEATHS = 60;
    private static final int MOST_MORTALS = 10;

    private static final int ALIKES = 4;
    private static final int MOST_ALIKE = 3;
    private static final int MOST_NEAR = 4;
    private static final int FOR_EVER = 99;
    private static final int FAR = 99;

    private static final int KINDS = 3;
    private static final int BY_ALL = 0;
    private static final int BY_KIN = 1;
    private static final int BACK_NEVER = 0;
    private static final int BACK_ANY = 1;

    private static final int MOST_LETTERS = 8;
    private static final int LETTER_BITS = 5;
    private static final int LETTER_MASK = 31;
    private static final int MOST_DIGITS = 4;
    private static final int MOST_SAID = 5;
    private static final int LARGEST_SAYING = 33554431;

    private final byte[] tape;
    private int taped;
    private Land current;
    private Land draft;
    private final Reader reader;
    private final Deaths deaths;
    private final Falls falls;
    private final Speech speech;
    private final Chances chances;
    private final int[] latest;
    private final int[] turned;

    public NameFall() {
        byte[] bytes = new byte[TAPE_BYTES];
        Land empty = new Land();
        Falls none = new Falls(empty);
        tape = bytes;
        current = empty;
        draft = new Land();
        reader = new Reader(new Scanner(bytes));
        deaths = new Deaths();
        falls = none;
        speech = new Speech(none);
        chances = new Chances();
        latest = new int[MOST_MEANINGS];
        turned = new int[MOST_MEANINGS];
    }

    public int feed(int a, int b, int c, int d, int e) {
        if (taped + FEED_BYTES > TAPE_BYTES) {
            return NONE;
        }
        putBytes(a);
        putBytes(b);
        putBytes(c);
        putBytes(d);
        putBytes(e);
        return taped;
    }

    public int end(int n) {
        if (n < 0 || n > taped) {
            return NONE;
        }
        taped = n;
        return n;
    }

    public int land() {
        reader.begin(draft, taped);
        int lines = 0;
        while (lines < TAPE_BYTES && reader.readLine(draft)) {
            lines++;
        }
        if (reader.fault != 0) {
            return NONE;
        }
        draft.settle();
        Land last = current;
        current = draft;
        draft = last;
        taped = 0;
        deaths.forget();
        return lines;
    }

    public int fault(int what) {
        switch (what) {
            case 0:
                return reader.fault;
            case 1:
                return reader.faultPlace;
            default:
                return NONE;
        }
    }

    public int die(int person, int year) {
        if (!isPerson(person) || !isYear(year) || year < current.persons.born[person]) {
            return NONE;
        }
        return deaths.add(person, year);
    }

    public boolean untell(int death) {
        return deaths.takeBack(death);
    }

    public int later(int by) {
        return deaths.goOn(by);
    }

    public int alive(int person, int year, int k) {
        if (!isPerson(person) || !isYear(year)) {
            return NONE;
        }
        falls.know(current, deaths, k, year);
        return falls.isAlive(person) ? 1 : 0;
    }

    public int apart(int word, int person) {
        if (!isWord(word) || !isPerson(person)) {
            return NONE;
        }
        return current.lettersApart(current.words.names[word], current.persons.called[person]);
    }

    public int near(int a, int b) {
        if (!isPerson(a) || !isPerson(b)) {
            return NONE;
        }
        return current.persons.stepsBetween(a, b);
    }

    public int may(int speaks, int hears, int word, int year, int k) {
        if (!isWord(word) || !canSpeak(speaks, hears, year, k)) {
            return NONE;
        }
        return has(falls.barred(speaks, hears), word) ? 0 : 1;
    }

    public int judge(int speaks, int hears, int saying, int year, int k) {
        if (saying < 1 || saying > LARGEST_SAYING || !canSpeak(speaks, hears, year, k)) {
            return NONE;
        }
        return firstBarred(saying, falls.barred(speaks, hears));
    }

    public int instead(int speaks, int hears, int meaning, int year, int k) {
        if (!isMeaning(meaning) || !canSpeak(speaks, hears, year, k)) {
            return NONE;
        }
        return speech.wordFor(current, speaks, hears, meaning);
    }

    public int cost(int speaks, int hears, int meaning, int year, int k) {
        if (!isMeaning(meaning) || !canSpeak(speaks, hears, year, k)) {
            return NONE;
        }
        return speech.leastCost(current, speaks, hears, meaning);
    }

    public int grasp(int speaks, int hears, int year, int k) {
        if (!canSpeak(speaks, hears, year, k)) {
            return NONE;
        }
        return speech.grasped(current, speaks, hears);
    }

    public int today(int place, int meaning, int year, int k) {
        if (!isPlace(place) || !isMeaning(meaning) || !isYear(year)) {
            return NONE;
        }
        falls.know(current, deaths, k, year);
        return current.places.firstOf(place, meaning, falls.heldAt(place));
    }

    public int parted(int a, int b, int year, int k) {
        if (!isPlace(a) || !isPlace(b) || !isYear(year)) {
            return NONE;
        }
        falls.know(current, deaths, k, year);
        int heldAtA = falls.heldAt(a);
        int heldAtB = falls.heldAt(b);
        int count = 0;
        for (int meaning = 0; meaning < current.meanings.count; meaning++) {
            int wordOfA = current.places.firstOf(a, meaning, heldAtA);
            int wordOfB = current.places.firstOf(b, meaning, heldAtB);
            if (wordOfA != wordOfB) {
                count++;
            }
        }
        return count;
    }

    public int changes(int place, int meaning, int from, int to, int k) {
        if (!isPlace(place) || !isMeaning(meaning) || !isSpan(from, to)) {
            return NONE;
        }
        falls.know(current, deaths, k, from);
        countChanges(place, from, to);
        return turned[meaning];
    }

    public int renewed(int place, int from, int to, int k) {
        if (!isPlace(place) || !isSpan(from, to)) {
            return NONE;
        }
        falls.know(current, deaths, k, from);
        countChanges(place, from, to);
        int best = NONE;
        int most = 0;
        for (int meaning = 0; meaning < current.meanings.count; meaning++) {
            if (turned[meaning] > most) {
                most = turned[meaning];
                best = meaning;
            }
        }
        return best;
    }

    public int tell(int speaks, int hears, int meaning, int year, int k) {
        if (!isMeaning(meaning) || !canSpeak(speaks, hears, year, k)) {
            return NONE;
        }
        return speech.findWay(current, speaks, hears, meaning);
    }

    public int told(int speaks, int hears, int meaning, int year, int i, int k) {
        if (!isMeaning(meaning) || !canSpeak(speaks, hears, year, k)) {
            return NONE;
        }
        int count = speech.findWay(current, speaks, hears, meaning);
        return i < 0 || i >= count ? NONE : speech.onWay(i);
    }

    public int safe(int place, int word) {
        if (!isPlace(place) || !isWord(word)) {
            return NONE;
        }
        Persons persons = current.persons;
        int alike = current.places.alikes[place];
        for (int person = 0; person < persons.count; person++) {
            if (persons.homes[person] == place && has(persons.soundsLike(person, alike), word)) {
                return 0;
            }
        }
        return 1;
    }

    public int hurt(int place, int word, int year, int k) {
        if (!isPlace(place) || !isWord(word) || !isYear(year)) {
            return NO_HURT;
        }
        falls.know(current, deaths, k, year);
        return hurtOf(place, word);
    }

    public int child(int place, int year, int k) {
        if (!isPlace(place) || !isYear(year)) {
            return NONE;
        }
        falls.know(current, deaths, k, year);
        int held = falls.heldAt(place);
        int best = NONE;
        int least = 0;
        for (int word = 0; word < current.words.count; word++) {
            if (has(held, word)) {
                continue;
            }
            int hurt = hurtOf(place, word);
            if (best == NONE || hurt < least) {
                best = word;
                least = hurt;
            }
        }
        return best;
    }

    public long mean(int place, int odds, int year, int part, int k) {
        boolean canBe = isPlace(place) && isYear(year) && odds >= 0 && odds <= MOST_ODDS;
        if (!canBe || part < 0 || part > 1) {
            return NONE;
        }
        falls.know(current, deaths, k, year);
        if (!chances.gather(current, falls, place)) {
            return SPENT;
        }
        chances.countCases(current, place, falls.heldAt(place));
        chances.weigh(odds);
        return part == 0 ? chances.upper : chances.lower;
    }

    public int wish(int place, int year, int k) {
        if (!isPlace(place) || !isYear(year)) {
            return NONE;
        }
        falls.know(current, deaths, k, year);
        int best = NONE;
        int most = 0;
        for (int kind = 0; kind < KINDS; kind++) {
            for (int alike = 0; alike < ALIKES; alike++) {
                falls.suppose(place, kind, alike);
                int sum = speech.graspedByAll(current);
                if (best == NONE || sum > most) {
                    most = sum;
                    best = 10 * kind + alike;
                }
            }
        }
        return best;
    }

    public int old(int meaning, int what) {
        if (!isMeaning(meaning) || what < 0 || what > 1) {
            return NONE;
        }
        int everywhere = current.places.inAllRows(meaning);
        if (everywhere == 0) {
            return NONE;
        }
        return what == 0 ? Integer.bitCount(everywhere) : lowest(everywhere);
    }

    public int about(int what) {
        switch (what) {
            case 0:
                return current.places.count;
            case 1:
                return current.meanings.count;
            case 2:
                return current.words.count;
            case 3:
                return current.meanings.turns;
            case 4:
                return current.persons.count;
            case 5:
                return current.persons.talks;
            case 6:
                return deaths.count;
            case 7:
                return deaths.time;
            case 8:
                return taped;
            default:
                return NONE;
        }
    }

    private void putBytes(int number) {
        for (int shift = 24; shift >= 0; shift -= 8) {
            if (taped < tape.length) {
                tape[taped] = (byte) (number >> shift);
                taped++;
            }
        }
    }

    private boolean isPlace(int number) {
        return number >= 0 && number < current.places.count;
    }

    private boolean isMeaning(int number) {
        return number >= 0 && number < current.meanings.count;
    }

    private boolean isWord(int number) {
        return number >= 0 && number < current.words.count;
    }

    private boolean isPerson(int number) {
        return number >= 0 && number < current.persons.count;
    }

    private static boolean isYear(int year) {
        return year >= 0 && year <= LAST_YEAR;
    }

    private static boolean isSpan(int from, int to) {
        return isYear(from) && isYear(to) && from < to;
    }

    /** Whether one can speak to the other then; if so, the falls are those known at k. */
    private boolean canSpeak(int speaks, int hears, int year, int k) {
        if (!isPerson(speaks) || !isPerson(hears) || speaks == hears || !isYear(year)) {
            return false;
        }
        falls.know(current, deaths, k, year);
        return falls.isAlive(speaks) && falls.isAlive(hears);
    }

    private int firstBarred(int saying, int barred) {
        int first = NONE_IS_BARRED;
        int rest = saying;
        for (int i = 0; i < MOST_SAID; i++) {
            int word = rest % 32 - 1;
            if (word == NONE) {
                return i == 0 ? NONE : first;
            }
            if (!isWord(word)) {
                return NONE;
            }
            if (first == NONE_IS_BARRED && has(barred, word)) {
                first = i;
            }
            rest = rest / 32;
        }
        return first;
    }

    /** Of each MEANING how often its TODAY turned, left in turned. */
    private void countChanges(int place, int from, int to) {
        for (int year = from; year <= to; year++) {
            falls.turnTo(year);
            int held = falls.heldAt(place);
            for (int meaning = 0; meaning < current.meanings.count; meaning++) {
                int word = current.places.firstOf(place, meaning, held);
                if (year == from) {
                    turned[meaning] = 0;
                } else if (word != latest[meaning]) {
                    turned[meaning]++;
                }
                latest[meaning] = word;
            }
        }
    }

    private int hurtOf(int place, int word) {
        int alike = current.places.alikes[place];
        int lost = current.words.soundsLike(word, alike) & current.places.allWords(place);
        int back = falls.comingBack(place, current.words.names[word]);
        return Integer.bitCount(lost) - COMES_BACK * back;
    }

    private static boolean has(int set, int number) {
        return (set >> number & 1) != 0;
    }

    /** The least number in a set; NONE if it is empty. */
    private static int lowest(int set) {
        return set == 0 ? NONE : Integer.bitCount((set & -set) - 1);
    }

    private static int find(long[] names, int count, long name) {
        for (int i = 0; i < count && i < names.length; i++) {
            if (names[i] == name) {
                return i;
            }
        }
        return NONE;
    }

    /** Parts the TAPE into TOKENS; shows the one it stands at. */
    private static final class Scanner {
        static final int NO_TOKEN = 0;
        static final int NAME = 1;
        static final int KEYWORD = 2;
        static final int NUMBER = 3;
        static final int SIGN = 4;
        static final int END = 5;

        static final int PLACE = 0;
        static final int MEANING = 1;
        static final int WORD = 2;
        static final int TURN = 3;
        static final int PERSON = 4;
        static final int TALK = 5;
        static final int CUSTOM = 6;
        static final int ALL = 7;
        static final int BEFORE = 9;
        static final int ALIKE = 10;
        static final int NEAR = 11;
        static final int YEARS = 12;
        static final int BACK = 13;
        static final int NEVER = 14;
        static final int OWN = 16;
        static final int MEANS = 17;
        static final int AT = 18;
        static final int CALLED = 19;
        static final int BORN = 20;
        static final int OF = 21;

        private static final int KEYWORDS = 22;
        // In the order of the numbers above; a blank ends each.
        private static final String SPELLED =
            "place meaning word turn person talk custom all kin before alike near years back never any own means at called born of ";

        int kind;
        int place;
        long name;
        int keyword;
        int number;
        private final byte[] text;
        private final long[] keywords;
        private int length;
        private int at;

        Scanner(byte[] tape) {
            text = tape;
            keywords = new long[KEYWORDS];
            int count = 0;
            int begin = 0;
            for (int i = 0; i < SPELLED.length() && count < KEYWORDS; i++) {
                if (SPELLED.charAt(i) == ' ') {
                    count++;
                    begin = i + 1;
                } else {
                    keywords[count] |= letterCode(SPELLED.charAt(i), i - begin);
                }
            }
        }

        void begin(int bytes) {
            length = Math.max(0, Math.min(bytes, text.length));
            at = 0;
            advance();
        }

        /** At what is no TOKEN it stays: nothing behind it is ever asked for. */
        void advance() {
            at = skipBlanks(at);
            place = at;
            if (at >= length) {
                kind = END;
            } else if (isLetter(text[at])) {
                takeWord();
            } else if (isDigit(text[at])) {
                takeNumber();
            } else if (text[at] == ';') {
                kind = SIGN;
                at++;
            } else {
                kind = NO_TOKEN;
            }
        }

        private int skipBlanks(int from) {
            int i = from;
            while (i < length && (text[i] == ' ' || text[i] == '\n')) {
                i++;
            }
            return i;
        }

        private void takeWord() {
            int stop = at;
            name = 0;
            while (stop < length && isLetter(text[stop])) {
                if (stop - at < MOST_LETTERS) {
                    name |= letterCode(text[stop], stop - at);
                }
                stop++;
            }
            if (stop - at > MOST_LETTERS) {
                kind = NO_TOKEN;
                return;
            }
            keyword = find(keywords, KEYWORDS, name);
            kind = keyword == NONE ? NAME : KEYWORD;
            at = stop;
        }

        private void takeNumber() {
            int stop = at;
            number = 0;
            while (stop < length && isDigit(text[stop])) {
                if (stop - at < MOST_DIGITS) {
                    number = number * 10 + (text[stop] - '0');
                }
                stop++;
            }
            boolean letterBehind = stop < length && isLetter(text[stop]);
            if (stop - at > MOST_DIGITS || letterBehind) {
                kind = NO_TOKEN;
                return;
            }
            kind = NUMBER;
            at = stop;
        }

        private static long letterCode(int letter, int index) {
            return (long) (letter - 'a' + 1) << LETTER_BITS * index;
        }

        private static boolean isLetter(int sign) {
            return sign >= 'a' && sign <= 'z';
        }

        private static boolean isDigit(int sign) {
            return sign >= '0' && sign <= '9';
        }
    }

    /**
     * Reads the TAPE into a Land. Each step answers whether it found what must stand there; TOKENS
     * come in the order of their places, so the first FAULT found is the first by its place.
     */
    private static final class Reader {
        private static final int NO_TOKEN = 1;
        private static final int CANNOT_STAND = 2;
        private static final int TOLD_ALREADY = 3;
        private static final int BAD_NUMBER = 4;
        private static final int NOT_OF_KIND = 5;

        int fault;
        int faultPlace;
        private final Scanner scanner;
        private long name;
        private int value;

        Reader(Scanner tokens) {
            scanner = tokens;
            faultPlace = NONE;
        }

        void begin(Land land, int bytes) {
            fault = 0;
            faultPlace = NONE;
            land.clear();
            scanner.begin(bytes);
        }

        /** False at the end, too, which alone leaves no fault. */
        boolean readLine(Land land) {
            if (scanner.kind == Scanner.END) {
                return false;
            }
            if (scanner.kind != Scanner.KEYWORD) {
                return refuse(CANNOT_STAND);
            }
            switch (scanner.keyword) {
                case Scanner.PLACE:
                    return hasRoom(land.places.count, MOST_PLACES) && readPlace(land.places);
                case Scanner.MEANING:
                    return hasRoom(land.meanings.count, MOST_MEANINGS) && readMeaning(land.meanings);
                case Scanner.WORD:
                    return hasRoom(land.words.count, MOST_WORDS) && readWord(land);
                case Scanner.TURN:
                    return hasRoom(land.meanings.turns, MOST_TURNS) && readTurn(land.meanings);
                case Scanner.PERSON:
                    return hasRoom(land.persons.count, MOST_PERSONS) && readPerson(land);
                case Scanner.TALK:
                    return hasRoom(land.persons.talks, MOST_TALKS) && readTalk(land.persons);
                default:
                    return refuse(CANNOT_STAND);
            }
        }

        private boolean readPlace(Places places) {
            int n = places.count;
            if (!takeNewName(places.names, n)) {
                return false;
            }
            places.names[n] = name;
            if (!takeKeyword(Scanner.CUSTOM) || !takeChoice(Scanner.ALL, Scanner.BEFORE)) {
                return false;
            }
            places.kinds[n] = value;
            if (!takeKeyword(Scanner.ALIKE) || !takeNumber(0, MOST_ALIKE)) {
                return false;
            }
            places.alikes[n] = value;
            if (!takeKeyword(Scanner.NEAR) || !takeNumber(0, MOST_NEAR)) {
                return false;
            }
            places.nears[n] = value;
            if (!takeKeyword(Scanner.YEARS) || !takeNumber(1, FOR_EVER)) {
                return false;
            }
            places.years[n] = value;
            if (!takeKeyword(Scanner.BACK) || !takeChoice(Scanner.NEVER, Scanner.OWN)) {
                return false;
            }
            places.backs[n] = value;
            places.count++;
            return takeSign();
        }

        private boolean readMeaning(Meanings meanings) {
            if (!takeNewName(meanings.names, meanings.count)) {
                return false;
            }
            meanings.names[meanings.count] = name;
            meanings.count++;
            return takeSign();
        }

        private boolean readWord(Land land) {
            Words words = land.words;
            int n = words.count;
            if (!takeNewName(words.names, n)) {
                return false;
            }
            words.names[n] = name;
            if (!takeKeyword(Scanner.MEANS) || !takeKnownName(land.meanings.names, land.meanings.count, 0)) {
                return false;
            }
            int meaning = value;
            words.count++;
            return takeKeyword(Scanner.AT) && takeRows(land.places, meaning, n) && takeSign();
        }

        private boolean takeRows(Places places, int meaning, int word) {
            int taken = 0;
            for (int i = 0; i <= MOST_PLACES; i++) {
                if (i > 0 && scanner.kind != Scanner.NAME) {
                    return true;
                }
                if (!takeKnownName(places.names, places.count, taken)) {
                    return false;
                }
                taken |= 1 << value;
                places.addToRow(value, meaning, word);
            }
            return true;
        }

        private boolean readTurn(Meanings meanings) {
            int n = meanings.turns;
            if (!takeKnownName(meanings.names, meanings.count, 0)) {
                return false;
            }
            meanings.turnOf[n] = value;
            int itself = 1 << value;
            if (!takeKnownName(meanings.names, meanings.count, itself)) {
                return false;
            }
            meanings.turnBy[n] = value;
            if (!takeKnownName(meanings.names, meanings.count, itself)) {
                return false;
            }
            meanings.turnWith[n] = value;
            meanings.turns++;
            return takeSign();
        }

        private boolean readPerson(Land land) {
            Persons persons = land.persons;
            int n = persons.count;
            if (!takeNewName(persons.names, n)) {
                return false;
            }
            persons.names[n] = name;
            if (!takeKeyword(Scanner.CALLED) || !takeName()) {
                return false;
            }
            persons.called[n] = name;
            if (!takeKeyword(Scanner.AT) || !takeKnownName(land.places.names, land.places.count, 0)) {
                return false;
            }
            persons.homes[n] = value;
            if (!takeKeyword(Scanner.BORN) || !takeNumber(0, LATEST_BIRTH)) {
                return false;
            }
            persons.born[n] = value;
            if (!takeParents(persons)) {
                return false;
            }
            // Only now: none is told ahead of itself, so it could not be its own parent.
            persons.parents[n] = value;
            persons.count++;
            return takeSign();
        }

        /** Leaves the set of parents in value. */
        private boolean takeParents(Persons persons) {
            int taken = 0;
            if (scanner.kind == Scanner.KEYWORD && scanner.keyword == Scanner.OF) {
                scanner.advance();
                if (!takeKnownName(persons.names, persons.count, 0)) {
                    return false;
                }
                taken = 1 << value;
                if (scanner.kind == Scanner.NAME) {
                    if (!takeKnownName(persons.names, persons.count, taken)) {
                        return false;
                    }
                    taken |= 1 << value;
                }
            }
            value = taken;
            return true;
        }

        private boolean readTalk(Persons persons) {
            if (!takeKnownName(persons.names, persons.count, 0)) {
                return false;
            }
            int one = value;
            int itselfAndPartners = 1 << one | persons.partners[one];
            if (!takeKnownName(persons.names, persons.count, itselfAndPartners)) {
                return false;
            }
            persons.partners[one] |= 1 << value;
            persons.partners[value] |= 1 << one;
            persons.talks++;
            return takeSign();
        }

        private boolean hasRoom(int count, int most) {
            if (count >= most) {
                return refuse(CANNOT_STAND);
            }
            scanner.advance();
            return true;
        }

        private boolean takeKeyword(int keyword) {
            if (scanner.kind != Scanner.KEYWORD || scanner.keyword != keyword) {
                return refuse(CANNOT_STAND);
            }
            scanner.advance();
            return true;
        }

        /** One of the keywords from first to last: which of them (0 the first) is left in value. */
        private boolean takeChoice(int first, int last) {
            boolean stands = scanner.kind == Scanner.KEYWORD
                && scanner.keyword >= first && scanner.keyword <= last;
            if (!stands) {
                return refuse(CANNOT_STAND);
            }
            value = scanner.keyword - first;
            scanner.advance();
            return true;
        }

        private boolean takeNumber(int least, int most) {
            if (scanner.kind != Scanner.NUMBER) {
                return refuse(CANNOT_STAND);
            }
            if (scanner.number < least || scanner.number > most) {
                return refuse(BAD_NUMBER);
            }
            value = scanner.number;
            scanner.advance();
            return true;
        }

        private boolean takeSign() {
            if (scanner.kind != Scanner.SIGN) {
                return refuse(CANNOT_STAND);
            }
            scanner.advance();
            return true;
        }

        private boolean takeName() {
            if (scanner.kind != Scanner.NAME) {
                return refuse(CANNOT_STAND);
            }
            name = scanner.name;
            scanner.advance();
            return true;
        }

        private boolean takeNewName(long[] names, int count) {
            if (scanner.kind == Scanner.NAME && find(names, count, scanner.name) != NONE) {
                return refuse(TOLD_ALREADY);
            }
            return takeName();
        }

        /** A NAME told ahead, of none in the set taken: its number is left in value. */
        private boolean takeKnownName(long[] names, int count, int taken) {
            if (scanner.kind != Scanner.NAME) {
                return refuse(CANNOT_STAND);
            }
            int number = find(names, count, scanner.name);
            if (number == NONE) {
                return refuse(NOT_OF_KIND);
            }
            if (has(taken, number)) {
                return refuse(TOLD_ALREADY);
            }
            value = number;
            scanner.advance();
            return true;
        }

        private boolean refuse(int number) {
            fault = scanner.kind == Scanner.NO_TOKEN ? NO_TOKEN : number;
            faultPlace = scanner.place;
            return false;
        }
    }

    private static final class Places {
        int count;
        final long[] names = new long[MOST_PLACES];
        final int[] kinds = new int[MOST_PLACES];
        final int[] alikes = new int[MOST_PLACES];
        final int[] nears = new int[MOST_PLACES];
        final int[] years = new int[MOST_PLACES];
        final int[] backs = new int[MOST_PLACES];
        // WORDS stand in a ROW as they are told, so the set of them has their order, too.
        private final int[] rows = new int[MOST_PLACES * MOST_MEANINGS];

        void clear() {
            count = 0;
            for (int i = 0; i < rows.length; i++) {
                rows[i] = 0;
            }
        }

        void addToRow(int place, int meaning, int word) {
            rows[place * MOST_MEANINGS + meaning] |= 1 << word;
        }

        int rowOf(int place, int meaning) {
            return rows[place * MOST_MEANINGS + meaning];
        }

        /** The first WORD of a ROW that is not in the set held; NONE if there is none. */
        int firstOf(int place, int meaning, int held) {
            return lowest(rowOf(place, meaning) & ~held);
        }

        int allWords(int place) {
            int set = 0;
            for (int meaning = 0; meaning < MOST_MEANINGS; meaning++) {
                set |= rowOf(place, meaning);
            }
            return set;
        }

        int inAllRows(int meaning) {
            int set = count == 0 ? 0 : rowOf(0, meaning);
            for (int place = 1; place < count; place++) {
                set &= rowOf(place, meaning);
            }
            return set;
        }
    }

    private static final class Meanings {
        int count;
        final long[] names = new long[MOST_MEANINGS];
        int turns;
        final int[] turnOf = new int[MOST_TURNS];
        final int[] turnBy = new int[MOST_TURNS];
        final int[] turnWith = new int[MOST_TURNS];

        void clear() {
            count = 0;
            turns = 0;
        }
    }

    private static final class Words {
        int count;
        final long[] names = new long[MOST_WORDS];
        final int[] sounding = new int[MOST_WORDS * ALIKES];

        void clear() {
            count = 0;
        }

        /** The WORDS that are APART from this one by no more than alike. */
        int soundsLike(int word, int alike) {
            return sounding[word * ALIKES + alike];
        }
    }

    private static final class Persons {
        int count;
        int talks;
        final long[] names = new long[MOST_PERSONS];
        final long[] called = new long[MOST_PERSONS];
        final int[] homes = new int[MOST_PERSONS];
        final int[] born = new int[MOST_PERSONS];
        final int[] parents = new int[MOST_PERSONS];
        final int[] forebears = new int[MOST_PERSONS];
        final int[] partners = new int[MOST_PERSONS];
        final int[] sounding = new int[MOST_PERSONS * ALIKES];
        private final int[] steps = new int[MOST_PERSONS * MOST_PERSONS];

        void clear() {
            count = 0;
            talks = 0;
            for (int i = 0; i < MOST_PERSONS; i++) {
                partners[i] = 0;
            }
        }

        /** The WORDS that are APART from what one is called by no more than alike. */
        int soundsLike(int person, int alike) {
            return sounding[person * ALIKES + alike];
        }

        int stepsBetween(int a, int b) {
            return steps[a * MOST_PERSONS + b];
        }

        /** Parents are told ahead of their children, so theirs are known by then. */
        void findForebears() {
            for (int person = 0; person < count; person++) {
                int set = parents[person];
                for (int parent = 0; parent < person; parent++) {
                    if (has(parents[person], parent)) {
                        set |= forebears[parent];
                    }
                }
                forebears[person] = set;
            }
        }

        void findSteps() {
            for (int a = 0; a < count; a++) {
                for (int b = 0; b < count; b++) {
                    boolean close = has(parents[a], b) || has(parents[b], a);
                    steps[a * MOST_PERSONS + b] = a == b ? 0 : close ? 1 : FAR;
                }
            }
            for (int through = 0; through < count; through++) {
                for (int a = 0; a < count; a++) {
                    for (int b = 0; b < count; b++) {
                        int sum = stepsBetween(a, through) + stepsBetween(through, b);
                        if (sum < stepsBetween(a, b)) {
                            steps[a * MOST_PERSONS + b] = sum;
                        }
                    }
                }
            }
        }
    }

    /** What a LAND's text tells, and what follows of it alone. */
    private static final class Land {
        final Places places = new Places();
        final Meanings meanings = new Meanings();
        final Words words = new Words();
        final Persons persons = new Persons();
        private final int[] changed = new int[MOST_LETTERS + 1];

        void clear() {
            places.clear();
            meanings.clear();
            words.clear();
            persons.clear();
        }

        /** To be called when all lines are read: only then all WORDS are known. */
        void settle() {
            persons.findForebears();
            persons.findSteps();
            for (int person = 0; person < persons.count; person++) {
                noteSounds(persons.called[person], persons.sounding, person);
            }
            for (int word = 0; word < words.count; word++) {
                noteSounds(words.names[word], words.sounding, word);
            }
        }

        private void noteSounds(long name, int[] sounding, int number) {
            for (int alike = 0; alike < ALIKES; alike++) {
                sounding[number * ALIKES + alike] = 0;
            }
            for (int word = 0; word < words.count; word++) {
                int apart = lettersApart(name, words.names[word]);
                for (int alike = apart; alike < ALIKES; alike++) {
                    sounding[number * ALIKES + alike] |= 1 << word;
                }
            }
        }

        /** APART, row by row: changed[j] is how far the first i letters of a are from j of b. */
        int lettersApart(long a, long b) {
            int lengthOfA = lengthOf(a);
            int lengthOfB = lengthOf(b);
            for (int j = 0; j <= lengthOfB; j++) {
                changed[j] = j;
            }
            for (int i = 1; i <= lengthOfA; i++) {
                int corner = changed[0];
                changed[0] = i;
                for (int j = 1; j <= lengthOfB; j++) {
                    int kept = letterAt(a, i - 1) == letterAt(b, j - 1) ? corner : corner + 1;
                    corner = changed[j];
                    int putOrLeft = Math.min(changed[j], changed[j - 1]) + 1;
                    changed[j] = Math.min(kept, putOrLeft);
                }
            }
            return changed[lengthOfB];
        }

        private static int letterAt(long name, int index) {
            return (int) (name >> LETTER_BITS * index) & LETTER_MASK;
        }

        private static int lengthOf(long name) {
            int length = 0;
            while (length < MOST_LETTERS && letterAt(name, length) != 0) {
                length++;
            }
            return length;
        }
    }

    /** DEATHS as they were TOLD, with the TIME. */
    private static final class Deaths {
        int count;
        int time;
        private final int[] persons = new int[MOST_DEATHS];
        private final int[] years = new int[MOST_DEATHS];
        private final int[] toldAt = new int[MOST_DEATHS];
        private final int[] untoldAt = new int[MOST_DEATHS];

        void forget() {
            count = 0;
        }

        int add(int person, int year) {
            if (count >= MOST_DEATHS) {
                return NONE;
            }
            persons[count] = person;
            years[count] = year;
            toldAt[count] = time;
            untoldAt[count] = NONE;
            count++;
            return count - 1;
        }

        boolean takeBack(int death) {
            if (death < 0 || death >= count || untoldAt[death] != NONE) {
                return false;
            }
            untoldAt[death] = time;
            return true;
        }

        int goOn(int by) {
            if (by < 0 || by > LONGEST_STEP || time + by > LAST_TIME) {
                return NONE;
            }
            time += by;
            return time;
        }

        /** The YEAR of each one's death as known at k, NONE without one; the last TOLD stays. */
        void writeYears(int[] died, int k) {
            for (int i = 0; i < died.length; i++) {
                died[i] = NONE;
            }
            for (int death = 0; death < count; death++) {
                boolean untold = untoldAt[death] != NONE && untoldAt[death] <= k;
                if (toldAt[death] <= k && !untold) {
                    died[persons[death]] = years[death];
                }
            }
        }
    }

    /** The FALLS that stand in one YEAR, as known at one TIME; customs may be supposed. */
    private static final class Falls {
        private Land land;
        private int year;
        private int standing;
        private final int[] died = new int[MOST_PERSONS];
        private final int[] over = new int[MOST_PERSONS];
        private final int[] kinds = new int[MOST_PLACES];
        private final int[] alikes = new int[MOST_PLACES];

        Falls(Land first) {
            land = first;
        }

        void know(Land of, Deaths deaths, int k, int inYear) {
            land = of;
            deaths.writeYears(died, k);
            for (int place = 0; place < land.places.count; place++) {
                suppose(place, land.places.kinds[place], land.places.alikes[place]);
            }
            for (int person = 0; person < land.persons.count; person++) {
                over[person] = died[person] == NONE ? NONE : endOfFall(person, died[person]);
            }
            turnTo(inYear);
        }

        /** Another custom for a PLACE, until the next know(). */
        void suppose(int place, int kind, int alike) {
            kinds[place] = kind;
            alikes[place] = alike;
        }

        void turnTo(int inYear) {
            year = inYear;
            standing = 0;
            for (int person = 0; person < land.persons.count; person++) {
                if (year >= died[person] && year < over[person]) {
                    standing |= 1 << person;
                }
            }
        }

        boolean isAlive(int person) {
            boolean notDead = died[person] == NONE || year < died[person];
            return notDead && year >= land.persons.born[person];
        }

        /** The first YEAR in which a FALL from that YEAR on is over or LIFTED. */
        private int endOfFall(int dead, int from) {
            int lasts = land.places.years[land.persons.homes[dead]];
            int end = lasts == FOR_EVER ? NO_YEAR : from + lasts;
            return Math.min(end, liftingYear(dead, from));
        }

        private int liftingYear(int dead, int from) {
            Persons persons = land.persons;
            int back = land.places.backs[persons.homes[dead]];
            int lifted = NO_YEAR;
            if (back == BACK_NEVER) {
                return lifted;
            }
            for (int other = 0; other < persons.count; other++) {
                boolean sameName = other != dead && persons.called[other] == persons.called[dead];
                boolean counts = back == BACK_ANY || has(persons.forebears[other], dead);
                if (sameName && counts && persons.born[other] >= from) {
                    lifted = Math.min(lifted, persons.born[other]);
                }
            }
            return lifted;
        }

        /** The WORDS that are BARRED for one who speaks to one who hears. */
        int barred(int speaks, int hears) {
            int set = 0;
            for (int dead = 0; dead < land.persons.count; dead++) {
                if (has(standing, dead) && binds(dead, speaks, hears)) {
                    set |= wordsOf(dead);
                }
            }
            return set;
        }

        private boolean binds(int dead, int speaks, int hears) {
            Persons persons = land.persons;
            int place = persons.homes[dead];
            if (kinds[place] == BY_ALL) {
                return persons.homes[speaks] == place;
            }
            int who = kinds[place] == BY_KIN ? speaks : hears;
            return persons.stepsBetween(who, dead) <= land.places.nears[place];
        }

        private int wordsOf(int dead) {
            return land.persons.soundsLike(dead, alikes[land.persons.homes[dead]]);
        }

        /** The WORDS that FALLS by a custom of all of a PLACE hold. */
        int heldAt(int place) {
            int set = 0;
            for (int dead = 0; dead < land.persons.count; dead++) {
                if (has(standing, dead) && fallsForAll(dead, place)) {
                    set |= wordsOf(dead);
                }
            }
            return set;
        }

        private boolean fallsForAll(int dead, int place) {
            return kinds[place] == BY_ALL && land.persons.homes[dead] == place;
        }

        /** The WORDS that would be held at a PLACE this YEAR if one of it died in it. */
        int heldIfDead(int person, int place) {
            boolean held = fallsForAll(person, place) && endOfFall(person, year) > year;
            return held ? wordsOf(person) : 0;
        }

        /** How many FALLS of a PLACE a child called so could lift. */
        int comingBack(int place, long name) {
            if (land.places.backs[place] == BACK_NEVER) {
                return 0;
            }
            int count = 0;
            for (int dead = 0; dead < land.persons.count; dead++) {
                boolean ofPlace = land.persons.homes[dead] == place;
                if (has(standing, dead) && ofPlace && land.persons.called[dead] == name) {
                    count++;
                }
            }
            return count;
        }
    }

    /** What is said and grasped in the YEAR of the FALLS. */
    private static final class Speech {
        private final Falls falls;
        private final int[] costs = new int[MOST_MEANINGS];
        private final int[] queue = new int[MOST_PERSONS];
        private final int[] toldBy = new int[MOST_PERSONS];
        private final int[] way = new int[MOST_PERSONS];

        Speech(Falls standing) {
            falls = standing;
        }

        int wordFor(Land land, int speaks, int hears, int meaning) {
            return choose(land.places, land.persons.homes[speaks], meaning, falls.barred(speaks, hears));
        }

        private static int choose(Places places, int home, int meaning, int barred) {
            int word = places.firstOf(home, meaning, barred);
            for (int place = 0; place < places.count && word == NONE; place++) {
                word = places.firstOf(place, meaning, barred);
            }
            return word;
        }

        int leastCost(Land land, int speaks, int hears, int meaning) {
            int home = land.persons.homes[speaks];
            int barred = falls.barred(speaks, hears);
            int count = land.meanings.count;
            for (int i = 0; i < count; i++) {
                costs[i] = choose(land.places, home, i, barred) == NONE ? NONE : 1;
            }
            // No least sum goes through one MEANING twice, so as many rounds as MEANINGS do.
            for (int round = 0; round < count; round++) {
                lowerByTurns(land.meanings);
            }
            return costs[meaning];
        }

        private void lowerByTurns(Meanings meanings) {
            for (int turn = 0; turn < meanings.turns; turn++) {
                int by = costs[meanings.turnBy[turn]];
                int with = costs[meanings.turnWith[turn]];
                int of = meanings.turnOf[turn];
                boolean can = by != NONE && with != NONE;
                if (can && (costs[of] == NONE || by + with < costs[of])) {
                    costs[of] = by + with;
                }
            }
        }

        int grasped(Land land, int speaks, int hears) {
            int barred = falls.barred(speaks, hears);
            int count = 0;
            for (int meaning = 0; meaning < land.meanings.count; meaning++) {
                if (isGrasped(land, speaks, hears, meaning, barred)) {
                    count++;
                }
            }
            return count;
        }

        private static boolean isGrasped(Land land, int speaks, int hears, int meaning, int barred) {
            int word = choose(land.places, land.persons.homes[speaks], meaning, barred);
            int row = land.places.rowOf(land.persons.homes[hears], meaning);
            return word != NONE && has(row, word);
        }

        int graspedByAll(Land land) {
            int sum = 0;
            for (int speaks = 0; speaks < land.persons.count; speaks++) {
                for (int hears = 0; hears < land.persons.count; hears++) {
                    boolean both = falls.isAlive(speaks) && falls.isAlive(hears);
                    if (both && speaks != hears) {
                        sum += grasped(land, speaks, hears);
                    }
                }
            }
            return sum;
        }

        /**
         * How many PERSONS the way has; NONE if there is none. Those found first go on first, by
         * numbers, so each is reached by the first of its shortest ways.
         */
        int findWay(Land land, int speaks, int hears, int meaning) {
            int seen = 1 << speaks;
            int queued = 1;
            queue[0] = speaks;
            for (int next = 0; next < queued && next < MOST_PERSONS; next++) {
                int teller = queue[next];
                for (int other = 0; other < land.persons.count; other++) {
                    if (!has(seen, other) && queued < MOST_PERSONS && passes(land, teller, other, meaning)) {
                        seen |= 1 << other;
                        toldBy[other] = teller;
                        queue[queued] = other;
                        queued++;
                    }
                }
            }
            return has(seen, hears) ? layWay(speaks, hears) : NONE;
        }

        private boolean passes(Land land, int teller, int other, int meaning) {
            if (!has(land.persons.partners[teller], other) || !falls.isAlive(other)) {
                return false;
            }
            return isGrasped(land, teller, other, meaning, falls.barred(teller, other));
        }

        private int layWay(int speaks, int hears) {
            int count = 1;
            for (int one = hears; one != speaks && count < MOST_PERSONS; one = toldBy[one]) {
                count++;
            }
            int one = hears;
            for (int i = count - 1; i >= 0; i--) {
                way[i] = one;
                one = toldBy[one];
            }
            return count;
        }

        int onWay(int i) {
            return i < 0 || i >= MOST_PERSONS ? NONE : way[i];
        }
    }

    /** MEAN: cases are told apart by who dies, and counted by how many do. */
    private static final class Chances {
        long upper;
        long lower;
        private int mortals;
        private final int[] heldByEach = new int[MOST_MORTALS];
        private final long[] todays = new long[MOST_MORTALS + 1];

        /** False if there are too many. */
        boolean gather(Land land, Falls falls, int place) {
            mortals = 0;
            for (int person = 0; person < land.persons.count; person++) {
                if (land.persons.homes[person] != place || !falls.isAlive(person)) {
                    continue;
                }
                if (mortals >= MOST_MORTALS) {
                    return false;
                }
                heldByEach[mortals] = falls.heldIfDead(person, place);
                mortals++;
            }
            return true;
        }

        void countCases(Land land, int place, int heldAlready) {
            for (int dead = 0; dead <= mortals; dead++) {
                todays[dead] = 0;
            }
            for (int died = 0; died < 1 << mortals; died++) {
                int held = heldAlready;
                for (int i = 0; i < mortals; i++) {
                    if (has(died, i)) {
                        held |= heldByEach[i];
                    }
                }
                todays[Integer.bitCount(died)] += countTodays(land, place, held);
            }
        }

        private static int countTodays(Land land, int place, int held) {
            int count = 0;
            for (int meaning = 0; meaning < land.meanings.count; meaning++) {
                if ((land.places.rowOf(place, meaning) & ~held) != 0) {
                    count++;
                }
            }
            return count;
        }

        /** At most 8 * 10^10, so longs hold it. */
        void weigh(int odds) {
            long sum = 0;
            for (int dead = 0; dead <= mortals; dead++) {
                sum += todays[dead] * power(odds, dead) * power(MOST_ODDS - odds, mortals - dead);
            }
            long all = power(MOST_ODDS, mortals);
            long divisor = commonDivisor(all, sum);
            upper = divisor == 0 ? sum : sum / divisor;
            lower = divisor == 0 ? all : all / divisor;
        }

        private static long power(int base, int exponent) {
            long product = 1;
            for (int i = 0; i < exponent; i++) {
                product *= base;
            }
            return product;
        }

        private static long commonDivisor(long a, long b) {
            long one = a;
            long other = b;
            // Euclid's steps: far fewer than 100 for numbers of this size.
            for (int i = 0; i < 100 && other != 0; i++) {
                long rest = one % other;
                one = other;
                other = rest;
            }
            return one;
        }
    }
}
