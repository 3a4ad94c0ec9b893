import java.util.NoSuchElementException;

/** A park in which dogs may be free by hours: see README.md and the document's promises. */
public final class OffTheLead {
    public static final int NONE = -1;

    private static final int HOURS = 24;
    private static final int MOST_PLACES = 5;
    private static final int MOST_PERSONS = 8;
    private static final int MOST_DOGS = 6;
    private static final int MOST_SIGN = 12;
    private static final int MOST_DAYS_AT_ONCE = 30;
    private static final int MOST_IMAGES = 2;
    private static final int MOST_TAPE = 940;
    private static final int FEED_BYTES = 20;
    private static final int MOST_PARK_BYTES = 900;
    private static final int MOST_BOOK_BYTES = 400;
    private static final int MOST_SENTENCE_BYTES = 200;
    private static final int NO_SUCH_LIVES = -1000;
    private static final int ODDS_DAYS = 7;
    private static final int MOST_SEEDS = 30;
    private static final int TOLD = 4;

    /** The sorts of what a NAME may be told for. */
    private static final int PLACE = 0;
    private static final int PERSON = 1;
    private static final int DOG = 2;

    /** The kinds of FAULTS. */
    private static final int CANT_COME = 1;
    private static final int NOT_AS_TOLD = 2;
    private static final int WRONG_NAME = 3;
    private static final int TOO_MANY = 4;

    private final Tape tape;
    private final Park now;
    private final Park spare;
    private final ParkReader reader;
    private final Book pages;
    private final Sentence phrase;
    private final Sentence draft;
    private final Days calendar;
    private final History history;
    private final Park[] imageParks;
    private final Sentence[] imagePhrases;
    private final boolean[] imageKept;
    private final int[] latestParted;
    private final int[] latestTold;
    private final StringBuilder latestBoard;
    private int latestPartedGood;
    private int latestFault;
    private int latestFrom;
    private int latestTo;

    public OffTheLead() {
        tape = new Tape();
        now = new Park();
        spare = new Park();
        reader = new ParkReader();
        pages = new Book();
        phrase = new Sentence();
        draft = new Sentence();
        calendar = new Days();
        history = new History();
        imageParks = new Park[MOST_IMAGES];
        imagePhrases = new Sentence[MOST_IMAGES];
        imageKept = new boolean[MOST_IMAGES];
        for (int k = 0; k < MOST_IMAGES; k++) {
            imageParks[k] = new Park();
            imagePhrases[k] = new Sentence();
        }
        latestParted = new int[MOST_PERSONS];
        for (int p = 0; p < MOST_PERSONS; p++) {
            latestParted[p] = NONE;
        }
        latestTold = new int[TOLD];
        for (int what = 0; what < TOLD; what++) {
            latestTold[what] = NONE;
        }
        latestBoard = new StringBuilder();
        latestPartedGood = NONE;
        latestFrom = NONE;
        latestTo = NONE;
    }

    public int feed(int a, int b, int c, int d, int e) {
        if (tape.size + FEED_BYTES > MOST_TAPE) {
            return NONE;
        }
        tape.append(a);
        tape.append(b);
        tape.append(c);
        tape.append(d);
        tape.append(e);
        return tape.size;
    }

    public boolean end(int n) {
        if (n < 0 || n > tape.size) {
            return false;
        }
        tape.size = n;
        return true;
    }

    public int park() {
        tape.open(MOST_PARK_BYTES);
        int lines = reader.readAll(tape, spare);
        closeTape();
        if (latestFault != 0) {
            return -1 - tape.faultAt;
        }
        now.copyFrom(spare);
        phrase.clear();
        history.forget();
        return lines;
    }

    public int fault() {
        return latestFault;
    }

    public int person(int p, int what) throws NoSuchElementException {
        if (!now.hasPerson(p)) {
            throw new NoSuchElementException();
        }
        Person person = now.persons[p];
        switch (what) {
            case 0: return person.place;
            case 1: return person.from;
            case 2: return person.to;
            case 3: return person.fear;
            case 4: return person.away;
            case 5: return person.frights;
            case 6: return person.bites;
            case 7: return person.dogs;
            case 8: return now.goodOf(p, person.place);
            default: throw new NoSuchElementException();
        }
    }

    public int dog(int d, int what) throws NoSuchElementException {
        if (!now.hasDog(d)) {
            throw new NoSuchElementException();
        }
        Dog dog = now.dogs[d];
        switch (what) {
            case 0: return dog.person;
            case 1: return dog.obeys;
            case 2: return dog.bites;
            case 3: return dog.held ? 1 : 0;
            case 4: return dog.ran;
            case 5: return dog.bit;
            default: throw new NoSuchElementException();
        }
    }

    public int place(int l, int what) {
        if (!now.hasPlace(l)) {
            return NONE;
        }
        switch (what) {
            case 0: return now.free[l];
            case 1: return now.fenced[l] ? 1 : 0;
            case 2: return now.comersTo(l);
            default: return NONE;
        }
    }

    public int now(int what) {
        switch (what) {
            case 0: return now.day;
            case 1: return now.awayBits();
            case 2: return now.sign;
            case 3: return now.complaints;
            case 4: return now.bites;
            case 5: return now.goodOfAll(true);
            case 6: return now.goodOfAll(false);
            case 7: return now.heldBits();
            default: return NONE;
        }
    }

    public int allow(int l, int from, int to) {
        if (!now.hasPlace(l) || !areHours(from, to)) {
            return NONE;
        }
        history.mark(now);
        return keepIfDone(now.allowHours(l, from, to));
    }

    public int forbid(int l, int from, int to) {
        if (!now.hasPlace(l) || !areHours(from, to)) {
            return NONE;
        }
        history.mark(now);
        return keepIfDone(now.forbidHours(l, from, to));
    }

    public int fence(int l) {
        if (!now.hasPlace(l)) {
            return NONE;
        }
        history.mark(now);
        keepIfDone(now.turnFence(l));
        return now.fenced[l] ? 1 : 0;
    }

    public int sign(int n) {
        if (n < 0 || n > MOST_SIGN) {
            return NONE;
        }
        history.mark(now);
        return keepIfDone(now.writeSign(n));
    }

    public int hold(int d, int held) {
        if (!now.hasDog(d) || held < 0 || held > 1) {
            return NONE;
        }
        history.mark(now);
        return keepIfDone(now.holdDog(d, held == 1));
    }

    public int come(int p, int l, int from, int to) {
        if (!now.hasPerson(p) || !now.hasPlace(l) || !areHours(from, to)) {
            return NONE;
        }
        history.mark(now);
        return keepIfDone(now.bring(p, l, from, to));
    }

    public int days(int n, int seed) {
        if (n < 1 || n > MOST_DAYS_AT_ONCE) {
            return NONE;
        }
        history.mark(now);
        int gone = calendar.live(now, n, seed);
        if (gone > 0) {
            history.keepMarked();
        }
        return gone;
    }

    public int undo() {
        return history.takeBack(now) ? history.size : NONE;
    }

    public int there(int l, int hour) {
        if (!now.hasPlace(l) || !areHours(hour, hour)) {
            return NONE;
        }
        return now.thoseThere(l, hour);
    }

    public int meets(int p, int q) {
        if (!now.hasPerson(p) || !now.hasPerson(q) || p == q) {
            return NONE;
        }
        return now.meetingHours(p, q);
    }

    public int best(int l, int all) {
        if (!now.hasPlace(l) || all < 0 || all > 1) {
            return NONE;
        }
        boolean ofAll = all == 1;
        int rest = now.goodOfAll(ofAll) - Welfare.goodHere(now, l, ofAll, now.free[l]);
        int most = Welfare.goodHere(now, l, ofAll, 0);
        latestFrom = NONE;
        latestTo = NONE;
        for (int from = 0; from < HOURS; from++) {
            for (int to = from; to < HOURS; to++) {
                int good = Welfare.goodHere(now, l, ofAll, hoursOf(from, to));
                if (good > most) {
                    most = good;
                    latestFrom = from;
                    latestTo = to;
                }
            }
        }
        return rest + most;
    }

    public int bestAt(int what) {
        if (what == 0) {
            return latestFrom;
        }
        return what == 1 ? latestTo : NONE;
    }

    public int fences() {
        spare.copyFrom(now);
        return Welfare.bestFence(spare);
    }

    public long risk(int p, int what) throws NoSuchElementException {
        if (!now.hasPerson(p) || now.persons[p].dogs != 0 || what < 0 || what > 1) {
            throw new NoSuchElementException();
        }
        if (Welfare.perilsOf(now, p) > Welfare.MOST_PERILS) {
            throw new NoSuchElementException();
        }
        long below = Welfare.waysOfPerils(now, p);
        long above = below - Welfare.waysUnharmed(now, p);
        long shared = Welfare.sharedDivisor(below, above);
        return (what == 0 ? above : below) / (shared > 0 ? shared : 1);
    }

    public int perils(int p) {
        if (!now.hasPerson(p) || now.persons[p].dogs != 0) {
            return NONE;
        }
        return Welfare.perilsOf(now, p);
    }

    public int rounds() {
        spare.copyFrom(now);
        int rounds = Welfare.part(spare);
        for (int p = 0; p < MOST_PERSONS; p++) {
            latestParted[p] = spare.hasPerson(p) ? spare.persons[p].place : NONE;
        }
        latestPartedGood = spare.goodOfAll(true);
        return rounds;
    }

    public int parted(int p) {
        return p >= 0 && p < MOST_PERSONS ? latestParted[p] : NONE;
    }

    public int partedGood() {
        return latestPartedGood;
    }

    public int tracks() {
        int dogs = tape.size % 2 == 0 && tape.size >= 2 && tape.size <= 20 ? now.dogBits() : NONE;
        for (int i = 0; i + 1 < tape.size && dogs != NONE; i += 2) {
            int l = tape.byteOf(i);
            int hour = tape.byteOf(i + 1);
            dogs = now.hasPlace(l) && hour < HOURS ? dogs & now.dogsComing(l, hour) : NONE;
        }
        tape.size = 0;
        return dogs;
    }

    public int votes(int l) {
        return now.hasPlace(l) ? now.countComers(l, true, false) : NONE;
    }

    public int against(int l) {
        return now.hasPlace(l) ? now.countComers(l, false, false) : NONE;
    }

    public int missed(int l) {
        return now.hasPlace(l) ? now.countComers(l, false, true) : NONE;
    }

    public int board(int l) {
        if (!now.hasPlace(l)) {
            return NONE;
        }
        latestBoard.setLength(0);
        appendName(now.placeNames[l]);
        appendFree(now.free[l]);
        return latestBoard.length();
    }

    public int byteAt(int i) {
        if (i < 0 || i >= latestBoard.length()) {
            return NONE;
        }
        return latestBoard.charAt(i);
    }

    public int odds(int p, int n, int seed) {
        if (!now.hasPerson(p) || n < 1 || n > MOST_SEEDS) {
            return NONE;
        }
        int frightened = 0;
        for (int i = 0; i < n; i++) {
            spare.copyFrom(now);
            calendar.live(spare, ODDS_DAYS, seed + i);
            if (spare.persons[p].frights > now.persons[p].frights) {
                frightened++;
            }
        }
        return frightened;
    }

    public int book(int lives) {
        if (lives != 0 && lives != 1) {
            return NO_SUCH_LIVES;
        }
        tape.open(MOST_BOOK_BYTES);
        pages.readAll(tape, now);
        closeTape();
        if (latestFault != 0) {
            return -2 - tape.faultAt;
        }
        Park lived = lives == 1 ? now : spare;
        if (lives == 1) {
            history.mark(now);
            history.keepMarked();
        } else {
            spare.copyFrom(now);
        }
        int good = pages.liveAll(lived, calendar);
        latestTold[0] = pages.why;
        latestTold[1] = good;
        latestTold[2] = lived.day;
        latestTold[3] = lived.awayBits();
        return pages.why == 0 ? NONE : good;
    }

    public int told(int what) {
        return what >= 0 && what < TOLD ? latestTold[what] : NONE;
    }

    public int sentence() {
        tape.open(MOST_SENTENCE_BYTES);
        draft.clear();
        draft.readCond(tape, now, 1);
        closeTape();
        if (latestFault != 0) {
            return -1 - tape.faultAt;
        }
        phrase.copyFrom(draft);
        return phrase.ones;
    }

    public int said(int k) {
        if (phrase.ones == 0 || k < NONE) {
            return NONE;
        }
        int found = 0;
        for (int p = 0; p < now.personCount; p++) {
            if (phrase.fits(now, p)) {
                if (found == k) {
                    return p;
                }
                found++;
            }
        }
        return k == NONE ? found : NONE;
    }

    public boolean image(int k) {
        if (k < 0 || k >= MOST_IMAGES) {
            return false;
        }
        imageParks[k].copyFrom(now);
        imagePhrases[k].copyFrom(phrase);
        imageKept[k] = true;
        return true;
    }

    public boolean restore(int k) {
        if (k < 0 || k >= MOST_IMAGES || !imageKept[k]) {
            return false;
        }
        now.copyFrom(imageParks[k]);
        phrase.copyFrom(imagePhrases[k]);
        history.forget();
        return true;
    }

    public int count(int what) {
        switch (what) {
            case 0: return now.placeCount;
            case 1: return now.personCount;
            case 2: return now.dogCount;
            case 3: return tape.size;
            default: return NONE;
        }
    }

    private void closeTape() {
        latestFault = tape.fault;
        tape.size = 0;
    }

    private int keepIfDone(int why) {
        if (why == 0) {
            history.keepMarked();
        }
        return why;
    }

    private void appendName(long name) {
        for (int i = Tape.MOST_LETTERS - 1; i >= 0; i--) {
            int letter = (int) (name >>> i * Tape.LETTER_BITS) & Tape.LETTER_MASK;
            if (letter != 0) {
                latestBoard.append((char) ('a' + letter - 1));
            }
        }
    }

    private void appendFree(int free) {
        if (free == 0) {
            latestBoard.append(" on the lead");
            return;
        }
        int from = 0;
        while (from < HOURS - 1 && (free >> from & 1) == 0) {
            from++;
        }
        int to = from;
        while (to < HOURS - 1 && (free >> (to + 1) & 1) == 1) {
            to++;
        }
        latestBoard.append(" free ");
        latestBoard.append(from);
        if (to > from) {
            latestBoard.append(" to ");
            latestBoard.append(to);
        }
        if ((free & ~hoursOf(from, to)) != 0) {
            latestBoard.append(" and more");
        }
    }

    private static boolean areHours(int from, int to) {
        return from >= 0 && from <= to && to < HOURS;
    }

    /** The HOURS from FROM to TO as bits. */
    private static int hoursOf(int from, int to) {
        return (1 << (to + 1)) - (1 << from);
    }

    /** The WORDS that are no NAMES; NAME stands for every other WORD, NO_WORD for other TOKENS. */
    private enum Word {
        PLACE("place"), FENCED("fenced"), PERSON("person"), DOG("dog"), FREE("free"), SIGN("sign"),
        ALLOW("allow"), FORBID("forbid"), FENCE("fence"), HELD("held"), LOOSE("loose"),
        COMES("comes"), DAY("day"), OR("or"), AND("and"), NOT("not"), AWAY("away"),
        OWNER("owner"), MEETS("meets"), AT("at"), FRIGHTS("frights"), BITES("bites"),
        GOOD("good"), NUMBER("number"), NAME(""), NO_WORD("");

        private static final Word[] ALL = values();

        private final String text;

        Word(String text) {
            this.text = text;
        }

        static Word of(byte[] bytes, int from, int to) {
            for (int i = 0; i < ALL.length; i++) {
                String text = ALL[i].text;
                int alike = 0;
                while (alike < text.length() && from + alike < to
                        && text.charAt(alike) == bytes[from + alike]) {
                    alike++;
                }
                if (alike == to - from && alike == text.length()) {
                    return ALL[i];
                }
            }
            return NAME;
        }
    }

    /** The bytes that were fed; and their reading, one TOKEN being looked at. */
    private static final class Tape {
        static final int WORD = 0;
        static final int NUMBER = 1;
        static final int MARK = 2;
        static final int END = 3;
        static final int NO_TOKEN = 4;
        static final int MOST_LETTERS = 7;
        static final int MOST_DIGITS = 3;
        static final int LETTER_BITS = 5;
        static final int LETTER_MASK = 31;

        private final byte[] bytes = new byte[MOST_TAPE];
        private int size;
        private int most;
        private int next;
        private int sort;
        private int at;
        private int value;
        private Word word = Word.NO_WORD;
        private long name;
        private int taken;
        private long takenName;
        private int from;
        private int to;
        private int fault;
        private int faultAt;

        void append(int number) {
            for (int shift = 24; shift >= 0 && size < MOST_TAPE; shift -= 8) {
                bytes[size] = (byte) (number >>> shift);
                size++;
            }
        }

        int byteOf(int i) {
            return i >= 0 && i < size ? bytes[i] & 255 : NONE;
        }

        void open(int mostBytes) {
            most = mostBytes;
            next = 0;
            fault = 0;
            faultAt = 0;
            step();
        }

        void step() {
            word = Word.NO_WORD;
            while (next < size && (bytes[next] == ' ' || bytes[next] == '\n')) {
                next++;
            }
            at = next;
            if (size > most && next >= most) {
                // what is too long is at fault at the first byte too many, a blank one too
                at = most;
                sort = NO_TOKEN;
            } else if (next >= size) {
                sort = END;
            } else if (isLetter(bytes[next]) || isDigit(bytes[next])) {
                stepOverRun();
                word = sort == WORD ? Word.of(bytes, at, next) : Word.NO_WORD;
            } else {
                value = bytes[next];
                sort = isMark(value) ? MARK : NO_TOKEN;
                next++;
            }
        }

        private void stepOverRun() {
            int letters = 0;
            name = 0;
            value = 0;
            while (next < size && (isLetter(bytes[next]) || isDigit(bytes[next]))) {
                int sign = bytes[next];
                if (isLetter(sign)) {
                    letters++;
                    name = name << LETTER_BITS | sign - 'a' + 1;
                } else {
                    value = value * 10 + sign - '0';
                }
                next++;
            }
            int length = next - at;
            if (letters == length) {
                sort = length <= MOST_LETTERS ? WORD : NO_TOKEN;
            } else {
                sort = letters == 0 && length <= MOST_DIGITS ? NUMBER : NO_TOKEN;
            }
        }

        private static boolean isLetter(int sign) {
            return sign >= 'a' && sign <= 'z';
        }

        private static boolean isDigit(int sign) {
            return sign >= '0' && sign <= '9';
        }

        private static boolean isMark(int sign) {
            return sign == ';' || sign == '<' || sign == '=' || sign == '>'
                    || sign == '(' || sign == ')';
        }

        boolean looksAtMark(int due) {
            return sort == MARK && value == due;
        }

        boolean refuse(int kind) {
            fault = kind;
            faultAt = at;
            return false;
        }

        boolean takeMark(int due) {
            if (!looksAtMark(due)) {
                return refuse(CANT_COME);
            }
            step();
            return true;
        }

        boolean takeNumber(int least, int highest) {
            if (sort != NUMBER) {
                return refuse(CANT_COME);
            }
            if (value < least || value > highest) {
                return refuse(NOT_AS_TOLD);
            }
            taken = value;
            step();
            return true;
        }

        boolean takeHours() {
            if (!takeNumber(0, HOURS - 1)) {
                return false;
            }
            from = taken;
            if (!takeNumber(from, HOURS - 1)) {
                return false;
            }
            to = taken;
            return true;
        }

        boolean takeNamed(Park park, int kind) {
            if (word != Word.NAME) {
                return refuse(CANT_COME);
            }
            taken = park.numberOf(kind, name);
            if (taken == NONE) {
                return refuse(WRONG_NAME);
            }
            step();
            return true;
        }

        boolean takeNewName(Park park) {
            if (word != Word.NAME) {
                return refuse(CANT_COME);
            }
            if (park.numberOf(PLACE, name) != NONE || park.numberOf(PERSON, name) != NONE
                    || park.numberOf(DOG, name) != NONE) {
                return refuse(WRONG_NAME);
            }
            takenName = name;
            step();
            return true;
        }
    }

    private static final class Person {
        private long name;
        private int place;
        private int from;
        private int to;
        private int fear;
        private int away;
        private int frights;
        private int bites;
        private int dogs;

        void copyFrom(Person other) {
            name = other.name;
            place = other.place;
            from = other.from;
            to = other.to;
            fear = other.fear;
            away = other.away;
            frights = other.frights;
            bites = other.bites;
            dogs = other.dogs;
        }

        int hours() {
            return hoursOf(from, to);
        }

        boolean isDue(int l, int hour) {
            return place == l && from <= hour && hour <= to;
        }
    }

    private static final class Dog {
        private long name;
        private int person;
        private int obeys;
        private int bites;
        private boolean held;
        private int ran;
        private int bit;

        void copyFrom(Dog other) {
            name = other.name;
            person = other.person;
            obeys = other.obeys;
            bites = other.bites;
            held = other.held;
            ran = other.ran;
            bit = other.bit;
        }
    }

    /** All that is so but the SENTENCE: who and what there is, how it is now, what was so far. */
    private static final class Park {
        static final int USUAL_SIGN = 2;

        private final long[] placeNames = new long[MOST_PLACES];
        private final int[] free = new int[MOST_PLACES];
        private final boolean[] fenced = new boolean[MOST_PLACES];
        private final Person[] persons = new Person[MOST_PERSONS];
        private final Dog[] dogs = new Dog[MOST_DOGS];
        private int placeCount;
        private int personCount;
        private int dogCount;
        private int sign;
        private int day;
        private int complaints;
        private int bites;

        Park() {
            for (int p = 0; p < MOST_PERSONS; p++) {
                persons[p] = new Person();
            }
            for (int d = 0; d < MOST_DOGS; d++) {
                dogs[d] = new Dog();
            }
            sign = USUAL_SIGN;
        }

        void clear() {
            placeCount = 0;
            personCount = 0;
            dogCount = 0;
            sign = USUAL_SIGN;
            day = 0;
            complaints = 0;
            bites = 0;
        }

        void copyFrom(Park other) {
            placeCount = other.placeCount;
            personCount = other.personCount;
            dogCount = other.dogCount;
            sign = other.sign;
            day = other.day;
            complaints = other.complaints;
            bites = other.bites;
            for (int l = 0; l < placeCount; l++) {
                placeNames[l] = other.placeNames[l];
                free[l] = other.free[l];
                fenced[l] = other.fenced[l];
            }
            for (int p = 0; p < personCount; p++) {
                persons[p].copyFrom(other.persons[p]);
            }
            for (int d = 0; d < dogCount; d++) {
                dogs[d].copyFrom(other.dogs[d]);
            }
        }

        void addPlace(long name, boolean isFenced) {
            placeNames[placeCount] = name;
            free[placeCount] = 0;
            fenced[placeCount] = isFenced;
            placeCount++;
        }

        /** A new PERSON, of whom nothing has been so far. */
        Person addPerson(long name) {
            Person person = persons[personCount];
            person.name = name;
            person.away = 0;
            person.frights = 0;
            person.bites = 0;
            person.dogs = 0;
            personCount++;
            return person;
        }

        /** A new DOG, of which nothing has been so far. */
        Dog addDog(long name, int p) {
            Dog dog = dogs[dogCount];
            dog.name = name;
            dog.person = p;
            dog.held = false;
            dog.ran = 0;
            dog.bit = 0;
            persons[p].dogs |= 1 << dogCount;
            dogCount++;
            return dog;
        }

        boolean hasPlace(int l) {
            return l >= 0 && l < placeCount;
        }

        boolean hasPerson(int p) {
            return p >= 0 && p < personCount;
        }

        boolean hasDog(int d) {
            return d >= 0 && d < dogCount;
        }

        int numberOf(int kind, long name) {
            int count = kind == PLACE ? placeCount : kind == PERSON ? personCount : dogCount;
            for (int i = 0; i < count; i++) {
                long told = kind == PLACE ? placeNames[i]
                        : kind == PERSON ? persons[i].name : dogs[i].name;
                if (told == name) {
                    return i;
                }
            }
            return NONE;
        }

        int allowHours(int l, int from, int to) {
            int hours = hoursOf(from, to);
            if ((free[l] & hours) == hours) {
                return 1;
            }
            free[l] |= hours;
            return 0;
        }

        int forbidHours(int l, int from, int to) {
            int hours = hoursOf(from, to);
            if ((free[l] & hours) == 0) {
                return 1;
            }
            free[l] &= ~hours;
            return 0;
        }

        int turnFence(int l) {
            fenced[l] = !fenced[l];
            return 0;
        }

        int writeSign(int lines) {
            if (sign == lines) {
                return 1;
            }
            sign = lines;
            return 0;
        }

        int holdDog(int d, boolean held) {
            if (dogs[d].held == held) {
                return held ? 1 : 2;
            }
            dogs[d].held = held;
            return 0;
        }

        int bring(int p, int l, int from, int to) {
            Person person = persons[p];
            if (person.place == l && person.from == from && person.to == to) {
                return 1;
            }
            person.place = l;
            person.from = from;
            person.to = to;
            return 0;
        }

        int comersTo(int l) {
            int bits = 0;
            for (int p = 0; p < personCount; p++) {
                if (persons[p].place == l) {
                    bits |= 1 << p;
                }
            }
            return bits;
        }

        int thoseThere(int l, int hour) {
            int bits = 0;
            for (int p = 0; p < personCount; p++) {
                if (persons[p].away == 0 && persons[p].isDue(l, hour)) {
                    bits |= 1 << p;
                }
            }
            return bits;
        }

        int countComers(int l, boolean owners, boolean away) {
            int found = 0;
            for (int p = 0; p < personCount; p++) {
                Person person = persons[p];
                if (person.place == l && (person.dogs != 0) == owners
                        && (person.away > 0) == away) {
                    found++;
                }
            }
            return found;
        }

        int awayBits() {
            int bits = 0;
            for (int p = 0; p < personCount; p++) {
                if (persons[p].away > 0) {
                    bits |= 1 << p;
                }
            }
            return bits;
        }

        int heldBits() {
            int bits = 0;
            for (int d = 0; d < dogCount; d++) {
                if (dogs[d].held) {
                    bits |= 1 << d;
                }
            }
            return bits;
        }

        int dogBits() {
            return (1 << dogCount) - 1;
        }

        /** DOGS that would come to a PLACE in an HOUR, HELD or not, away or not. */
        int dogsComing(int l, int hour) {
            int bits = 0;
            for (int d = 0; d < dogCount; d++) {
                if (persons[dogs[d].person].isDue(l, hour)) {
                    bits |= 1 << d;
                }
            }
            return bits;
        }

        int meetingHours(int p, int q) {
            if (persons[p].place != persons[q].place) {
                return 0;
            }
            return persons[p].hours() & persons[q].hours();
        }

        /** HOURS in which others are not well at a PLACE while it is free: by DOGS not HELD. */
        int troubledHours(int l) {
            int hours = 0;
            for (int d = 0; d < dogCount && !fenced[l]; d++) {
                Person owner = persons[dogs[d].person];
                if (owner.place == l && !dogs[d].held) {
                    hours |= owner.hours();
                }
            }
            return hours;
        }

        /** GOOD of a PERSON, if he came to a PLACE. */
        int goodOf(int p, int l) {
            return goodIf(p, free[l], troubledHours(l));
        }

        int goodIf(int p, int freeHours, int troubled) {
            int hours = persons[p].hours();
            if (persons[p].dogs != 0) {
                return Integer.bitCount(hours & freeHours);
            }
            return Integer.bitCount(hours & ~(freeHours & troubled));
        }

        int goodOfAll(boolean awayToo) {
            int good = 0;
            for (int p = 0; p < personCount; p++) {
                if (awayToo || persons[p].away == 0) {
                    good += goodOf(p, persons[p].place);
                }
            }
            return good;
        }
    }

    /** Reads a PARK from the tape into a spare one. */
    private static final class ParkReader {
        static final int MOST_FREE = 12;
        static final int MOST_FEAR = 30;
        static final int MOST_SKILL = 12;

        private int freeLines;
        private boolean signTold;

        int readAll(Tape tape, Park park) {
            park.clear();
            freeLines = 0;
            signTold = false;
            int lines = 0;
            boolean good = true;
            while (good && lines < MOST_PARK_BYTES && tape.sort != Tape.END) {
                if (tape.word == Word.PLACE) {
                    good = readPlace(tape, park);
                } else if (tape.word == Word.PERSON) {
                    good = readPerson(tape, park);
                } else if (tape.word == Word.DOG) {
                    good = readDog(tape, park);
                } else if (tape.word == Word.FREE) {
                    good = readFree(tape, park);
                } else if (tape.word == Word.SIGN) {
                    good = readSign(tape, park);
                } else {
                    good = tape.refuse(CANT_COME);
                }
                lines++;
            }
            return lines;
        }

        private boolean readPlace(Tape tape, Park park) {
            if (park.placeCount >= MOST_PLACES) {
                return tape.refuse(TOO_MANY);
            }
            tape.step();
            if (!tape.takeNewName(park)) {
                return false;
            }
            boolean fenced = tape.word == Word.FENCED;
            if (fenced) {
                tape.step();
            }
            park.addPlace(tape.takenName, fenced);
            return tape.takeMark(';');
        }

        private boolean readPerson(Tape tape, Park park) {
            if (park.personCount >= MOST_PERSONS) {
                return tape.refuse(TOO_MANY);
            }
            tape.step();
            if (!tape.takeNewName(park) || !tape.takeNamed(park, PLACE)) {
                return false;
            }
            int l = tape.taken;
            if (!tape.takeHours() || !tape.takeNumber(0, MOST_FEAR)) {
                return false;
            }
            Person person = park.addPerson(tape.takenName);
            person.place = l;
            person.from = tape.from;
            person.to = tape.to;
            person.fear = tape.taken;
            return tape.takeMark(';');
        }

        private boolean readDog(Tape tape, Park park) {
            if (park.dogCount >= MOST_DOGS) {
                return tape.refuse(TOO_MANY);
            }
            tape.step();
            if (!tape.takeNewName(park) || !tape.takeNamed(park, PERSON)) {
                return false;
            }
            int p = tape.taken;
            if (!tape.takeNumber(0, MOST_SKILL)) {
                return false;
            }
            int obeys = tape.taken;
            if (!tape.takeNumber(0, MOST_SKILL)) {
                return false;
            }
            Dog dog = park.addDog(tape.takenName, p);
            dog.obeys = obeys;
            dog.bites = tape.taken;
            return tape.takeMark(';');
        }

        private boolean readFree(Tape tape, Park park) {
            if (freeLines >= MOST_FREE) {
                return tape.refuse(TOO_MANY);
            }
            freeLines++;
            tape.step();
            if (!tape.takeNamed(park, PLACE)) {
                return false;
            }
            int l = tape.taken;
            if (!tape.takeHours()) {
                return false;
            }
            park.free[l] |= hoursOf(tape.from, tape.to);
            return tape.takeMark(';');
        }

        private boolean readSign(Tape tape, Park park) {
            if (signTold) {
                return tape.refuse(WRONG_NAME);
            }
            signTold = true;
            tape.step();
            if (!tape.takeNumber(0, MOST_SIGN)) {
                return false;
            }
            park.sign = tape.taken;
            return tape.takeMark(';');
        }
    }

    /** A BOOK: it is read whole, then its LINES are lived one by one. */
    private static final class Book {
        static final int MOST_LINES = 40;
        static final int ALLOWING = 0;
        static final int FORBIDDING = 10;
        static final int SIGNING = 20;
        static final int HOLDING = 30;
        static final int COMING = 40;
        static final int TOO_FEW_DAYS = 51;

        private final Word[] acts = new Word[MOST_LINES];
        private final int[] whom = new int[MOST_LINES];
        private final int[] where = new int[MOST_LINES];
        private final int[] froms = new int[MOST_LINES];
        private final int[] tos = new int[MOST_LINES];
        private int lines;
        private int why;

        void readAll(Tape tape, Park park) {
            lines = 0;
            boolean good = true;
            for (int i = 0; i <= MOST_LINES && good && tape.sort != Tape.END; i++) {
                good = mayBegin(tape, park) && readLine(tape, park) && tape.takeMark(';');
                if (good) {
                    lines++;
                }
            }
        }

        private boolean mayBegin(Tape tape, Park park) {
            Word word = tape.word;
            if (word == Word.NAME) {
                if (park.numberOf(DOG, tape.name) == NONE
                        && park.numberOf(PERSON, tape.name) == NONE) {
                    return tape.refuse(WRONG_NAME);
                }
            } else if (word != Word.ALLOW && word != Word.FORBID && word != Word.FENCE
                    && word != Word.SIGN && word != Word.DAY) {
                return tape.refuse(CANT_COME);
            }
            return lines < MOST_LINES || tape.refuse(TOO_MANY);
        }

        private boolean readLine(Tape tape, Park park) {
            Word act = readAct(tape, park);
            acts[lines] = act;
            if (act == Word.NO_WORD || act == Word.HELD || act == Word.LOOSE) {
                return act != Word.NO_WORD;
            }
            if (act == Word.SIGN || act == Word.DAY) {
                boolean good = act == Word.DAY
                        ? tape.takeNumber(1, MOST_DAYS_AT_ONCE) : tape.takeNumber(0, MOST_SIGN);
                whom[lines] = tape.taken;
                return good;
            }
            if (!tape.takeNamed(park, PLACE)) {
                return false;
            }
            where[lines] = tape.taken;
            if (act == Word.FENCE) {
                return true;
            }
            boolean good = tape.takeHours();
            froms[lines] = tape.from;
            tos[lines] = tape.to;
            return good;
        }

        /** What a LINE is about, whom it is done to being read; NO_WORD: it is at fault. */
        private Word readAct(Tape tape, Park park) {
            Word act = tape.word;
            if (act != Word.NAME) {
                tape.step();
                return act;
            }
            int sort = park.numberOf(DOG, tape.name) != NONE ? DOG : PERSON;
            if (!tape.takeNamed(park, sort)) {
                return Word.NO_WORD;
            }
            whom[lines] = tape.taken;
            act = tape.word;
            boolean due = sort == DOG ? act == Word.HELD || act == Word.LOOSE : act == Word.COMES;
            if (!due) {
                tape.refuse(CANT_COME);
                return Word.NO_WORD;
            }
            tape.step();
            return act;
        }

        /** How many LINES were lived ahead of one that is WRONG; 'why' tells why it is. */
        int liveAll(Park park, Days calendar) {
            why = 0;
            for (int i = 0; i < lines; i++) {
                why = liveLine(i, park, calendar);
                if (why != 0) {
                    return i;
                }
            }
            return lines;
        }

        private int liveLine(int i, Park park, Days calendar) {
            Word act = acts[i];
            if (act == Word.ALLOW) {
                return whyNot(ALLOWING, park.allowHours(where[i], froms[i], tos[i]));
            }
            if (act == Word.FORBID) {
                return whyNot(FORBIDDING, park.forbidHours(where[i], froms[i], tos[i]));
            }
            if (act == Word.FENCE) {
                return park.turnFence(where[i]);
            }
            if (act == Word.SIGN) {
                return whyNot(SIGNING, park.writeSign(whom[i]));
            }
            if (act == Word.HELD || act == Word.LOOSE) {
                return whyNot(HOLDING, park.holdDog(whom[i], act == Word.HELD));
            }
            if (act == Word.COMES) {
                return whyNot(COMING, park.bring(whom[i], where[i], froms[i], tos[i]));
            }
            if (whom[i] > Days.ALL_DAYS - park.day) {
                return TOO_FEW_DAYS;
            }
            calendar.live(park, whom[i], whom[i]);
            return 0;
        }

        private static int whyNot(int act, int reason) {
            return reason == 0 ? 0 : act + reason;
        }
    }

    /** A SENTENCE, kept as steps behind what they join, so that it is said without recursion. */
    private static final class Sentence {
        static final int MOST_ONES = 20;
        static final int MOST_WITHIN = 8;
        static final int MOST_STEPS = 2 * MOST_ONES;
        static final int MOST_NUMBER = 999;

        private final Word[] steps = new Word[MOST_STEPS];
        private final int[] signs = new int[MOST_STEPS];
        private final int[] numbers = new int[MOST_STEPS];
        private int size;
        /** How many ONES; 0: there is no SENTENCE. */
        private int ones;

        void clear() {
            size = 0;
            ones = 0;
        }

        void copyFrom(Sentence other) {
            size = other.size;
            ones = other.ones;
            for (int i = 0; i < size; i++) {
                steps[i] = other.steps[i];
                signs[i] = other.signs[i];
                numbers[i] = other.numbers[i];
            }
        }

        /** Reads ONES that are joined; behind the outermost ones the text has its end. */
        private boolean readCond(Tape tape, Park park, int depth) {
            boolean good = readOne(tape, park, depth);
            boolean orWaits = false;
            for (int i = 0; i < MOST_ONES && good; i++) {
                if (tape.word == Word.AND) {
                    tape.step();
                    good = readOne(tape, park, depth);
                    add(Word.AND, 0, 0);
                } else if (tape.word == Word.OR) {
                    // 'and' binds closer: an 'or' is said when all behind it is joined
                    if (orWaits) {
                        add(Word.OR, 0, 0);
                    }
                    orWaits = true;
                    tape.step();
                    good = readOne(tape, park, depth);
                } else {
                    break;
                }
            }
            if (orWaits) {
                add(Word.OR, 0, 0);
            }
            if (good && depth == 1 && tape.sort != Tape.END) {
                return tape.refuse(CANT_COME);
            }
            return good;
        }

        private boolean readOne(Tape tape, Park park, int depth) {
            Word word = tape.word;
            boolean bracket = tape.looksAtMark('(');
            if (!bracket && !beginsOne(word)) {
                return tape.refuse(CANT_COME);
            }
            if (ones >= MOST_ONES || depth > MOST_WITHIN) {
                return tape.refuse(TOO_MANY);
            }
            ones++;
            tape.step();
            if (bracket) {
                return readCond(tape, park, depth + 1) && tape.takeMark(')');
            }
            if (word == Word.NOT) {
                boolean good = readOne(tape, park, depth + 1);
                add(Word.NOT, 0, 0);
                return good;
            }
            return readPlain(tape, park, word);
        }

        private boolean readPlain(Tape tape, Park park, Word word) {
            if (word == Word.AWAY || word == Word.OWNER) {
                add(word, 0, 0);
                return true;
            }
            if (word == Word.MEETS || word == Word.AT) {
                boolean good = tape.takeNamed(park, word == Word.AT ? PLACE : PERSON);
                add(word, 0, tape.taken);
                return good;
            }
            int sign = tape.value;
            if (!tape.looksAtMark('<') && !tape.looksAtMark('=') && !tape.looksAtMark('>')) {
                return tape.refuse(CANT_COME);
            }
            tape.step();
            boolean good = tape.takeNumber(0, MOST_NUMBER);
            add(word, sign, tape.taken);
            return good;
        }

        private static boolean beginsOne(Word word) {
            return word == Word.NOT || word == Word.AWAY || word == Word.OWNER
                    || word == Word.MEETS || word == Word.AT || word == Word.FRIGHTS
                    || word == Word.BITES || word == Word.GOOD || word == Word.NUMBER;
        }

        private void add(Word step, int sign, int number) {
            if (size < MOST_STEPS) {
                steps[size] = step;
                signs[size] = sign;
                numbers[size] = number;
                size++;
            }
        }

        /** Whether it may be said of a PERSON; the lowest bit of 'stack' is its top. */
        boolean fits(Park park, int p) {
            int stack = 0;
            for (int i = 0; i < size; i++) {
                int top = stack & 1;
                if (steps[i] == Word.NOT) {
                    stack ^= 1;
                } else if (steps[i] == Word.AND) {
                    stack = stack >>> 1 & (top == 1 ? ~0 : ~1);
                } else if (steps[i] == Word.OR) {
                    stack = stack >>> 1 | top;
                } else {
                    stack = stack << 1 | (plainFits(park, p, i) ? 1 : 0);
                }
            }
            return (stack & 1) == 1;
        }

        private boolean plainFits(Park park, int p, int i) {
            Word word = steps[i];
            Person person = park.persons[p];
            int number = numbers[i];
            if (word == Word.AWAY) {
                return person.away > 0;
            }
            if (word == Word.OWNER) {
                return person.dogs != 0;
            }
            if (word == Word.MEETS) {
                return p != number && park.meetingHours(p, number) != 0;
            }
            if (word == Word.AT) {
                return person.place == number;
            }
            if (word == Word.FRIGHTS) {
                return compares(person.frights, signs[i], number);
            }
            if (word == Word.BITES) {
                return compares(person.bites, signs[i], number);
            }
            int value = word == Word.GOOD ? park.goodOf(p, person.place) : p;
            return compares(value, signs[i], number);
        }

        private static boolean compares(int value, int sign, int number) {
            return sign == '<' ? value < number : sign == '>' ? value > number : value == number;
        }
    }

    /** How DAYS go by, with draws that go on from one to the next. */
    private static final class Days {
        static final int ALL_DAYS = 400;
        static final int SIDES = 12;

        private int x;

        int live(Park park, int n, int seed) {
            x = seed;
            int gone = 0;
            while (gone < n && park.day < ALL_DAYS) {
                liveDay(park);
                gone++;
            }
            return gone;
        }

        private int draw() {
            x = x * 1103515245 + 12345;
            return (x >>> 8) % SIDES;
        }

        private void liveDay(Park park) {
            int frightened = 0;
            for (int hour = 0; hour < HOURS; hour++) {
                for (int d = 0; d < park.dogCount; d++) {
                    frightened |= frightBy(park, d, hour, frightened);
                }
            }
            for (int p = 0; p < park.personCount; p++) {
                Person person = park.persons[p];
                if ((frightened >> p & 1) == 1) {
                    person.away = person.fear;
                } else if (person.away > 0) {
                    person.away--;
                }
            }
            park.day++;
        }

        /** Whom a DOG frightens in an HOUR, as a bit; those who left already are not there. */
        private int frightBy(Park park, int d, int hour, int left) {
            Dog dog = park.dogs[d];
            Person owner = park.persons[dog.person];
            int l = owner.place;
            if (dog.held || owner.away > 0 || !owner.isDue(l, hour)) {
                return 0;
            }
            if ((park.free[l] >> hour & 1) == 0 && draw() >= park.sign) {
                return 0;
            }
            int p = park.fenced[l] ? NONE : firstThere(park, l, hour, left);
            if (p == NONE || draw() < dog.obeys) {
                return 0;
            }
            dog.ran++;
            park.complaints++;
            park.persons[p].frights++;
            if (draw() < dog.bites) {
                dog.bit++;
                park.bites++;
                park.persons[p].bites++;
            }
            return 1 << p;
        }

        private static int firstThere(Park park, int l, int hour, int left) {
            for (int p = 0; p < park.personCount; p++) {
                Person person = park.persons[p];
                if (person.dogs == 0 && person.away == 0 && (left >> p & 1) == 0
                        && person.isDue(l, hour)) {
                    return p;
                }
            }
            return NONE;
        }
    }

    /** What would be good or bad for whom. */
    private static final class Welfare {
        static final int MOST_PERILS = 8;
        static final int MOST_ROUNDS = 30;
        /** A draw for the lead and one for obeying, as one. */
        static final int TWO_DRAWS = Days.SIDES * Days.SIDES;
        static final int MOST_DIVISIONS = 200;

        /** GOOD of those who come to a PLACE, if it was free in these HOURS. */
        static int goodHere(Park park, int l, boolean awayToo, int freeHours) {
            int troubled = park.troubledHours(l);
            int good = 0;
            for (int p = 0; p < park.personCount; p++) {
                Person person = park.persons[p];
                if (person.place == l && (awayToo || person.away == 0)) {
                    good += park.goodIf(p, freeHours, troubled);
                }
            }
            return good;
        }

        static int bestFence(Park park) {
            int best = NONE;
            int most = NONE;
            for (int l = 0; l < park.placeCount; l++) {
                boolean before = park.fenced[l];
                park.fenced[l] = true;
                int good = park.goodOfAll(true);
                park.fenced[l] = before;
                if (good > most) {
                    most = good;
                    best = l;
                }
            }
            return best;
        }

        /** PERSONS of a PARK go where it is best for each, till REST: in how many ROUNDS. */
        static int part(Park park) {
            for (int round = 1; round <= MOST_ROUNDS; round++) {
                if (!goRound(park)) {
                    return round;
                }
            }
            return MOST_ROUNDS;
        }

        private static boolean goRound(Park park) {
            boolean moved = false;
            for (int p = 0; p < park.personCount; p++) {
                int best = park.persons[p].place;
                int most = park.goodOf(p, best);
                for (int l = 0; l < park.placeCount; l++) {
                    int good = park.goodOf(p, l);
                    if (good > most) {
                        most = good;
                        best = l;
                    }
                }
                moved |= best != park.persons[p].place;
                park.persons[p].place = best;
            }
            return moved;
        }

        static int perilsOf(Park park, int p) {
            int perils = 0;
            for (int hour = 0; hour < HOURS; hour++) {
                if (isFirst(park, p, hour)) {
                    for (int d = 0; d < park.dogCount; d++) {
                        if (mayReach(park, d, p, hour)) {
                            perils++;
                        }
                    }
                }
            }
            return perils;
        }

        /** All ways in which the draws of his perils can fall. */
        static long waysOfPerils(Park park, int p) {
            long ways = 1;
            int perils = Math.min(perilsOf(park, p), MOST_PERILS);
            for (int i = 0; i < perils; i++) {
                ways *= TWO_DRAWS;
            }
            return ways;
        }

        /** Those of them in which no DOG runs up to him. */
        static long waysUnharmed(Park park, int p) {
            long ways = 1;
            int l = park.persons[p].place;
            for (int hour = 0; hour < HOURS; hour++) {
                int loose = (park.free[l] >> hour & 1) == 1 ? Days.SIDES : park.sign;
                if (isFirst(park, p, hour)) {
                    for (int d = 0; d < park.dogCount; d++) {
                        if (mayReach(park, d, p, hour)) {
                            ways *= TWO_DRAWS - loose * (Days.SIDES - park.dogs[d].obeys);
                        }
                    }
                }
            }
            return ways;
        }

        /** Whether he is, away or not, the first without a DOG at his PLACE in an HOUR. */
        private static boolean isFirst(Park park, int p, int hour) {
            Person person = park.persons[p];
            if (!person.isDue(person.place, hour)) {
                return false;
            }
            for (int q = 0; q < p; q++) {
                Person other = park.persons[q];
                if (other.dogs == 0 && other.away == 0 && other.isDue(person.place, hour)) {
                    return false;
                }
            }
            return true;
        }

        private static boolean mayReach(Park park, int d, int p, int hour) {
            int l = park.persons[p].place;
            Dog dog = park.dogs[d];
            Person owner = park.persons[dog.person];
            return !park.fenced[l] && !dog.held && owner.away == 0 && owner.isDue(l, hour);
        }

        static long sharedDivisor(long a, long b) {
            for (int i = 0; i < MOST_DIVISIONS && b != 0; i++) {
                long rest = a % b;
                a = b;
                b = rest;
            }
            return a;
        }
    }

    /** What was so ahead of the latest acts: a ring with one place more, for an act under way. */
    private static final class History {
        static final int MOST_KEPT = 8;
        static final int RING = MOST_KEPT + 1;

        private final Park[] kept = new Park[RING];
        private int next;
        private int size;

        History() {
            for (int i = 0; i < RING; i++) {
                kept[i] = new Park();
            }
        }

        void mark(Park park) {
            kept[next].copyFrom(park);
        }

        void keepMarked() {
            next = (next + 1) % RING;
            size = Math.min(size + 1, MOST_KEPT);
        }

        boolean takeBack(Park park) {
            if (size == 0) {
                return false;
            }
            next = (next + MOST_KEPT) % RING;
            size--;
            park.copyFrom(kept[next]);
            return true;
        }

        void forget() {
            size = 0;
        }
    }
}
