import java.util.Arrays;

/**
 * A town whose saint has his feast on whichever day nobody thinks of him.
 * The document ../shared/DOC.md says what each call answers; its capital words are used here too.
 */
public final class ForgottenFeast {
    public static final int NONE = -1;
    public static final long NOTHING = -1000000000000000L;

    private static final int MOST_BYTES = 1600;
    private static final int MOST_STATEMENTS = 70;
    private static final int MOST_PEOPLE = 8;
    private static final int MOST_DAYS = 90;
    private static final int MOST_YEARS = 999;
    private static final int MOST_TOLD = 30;
    private static final int MOST_BRIBES = 30;
    private static final int MOST_REMINDS = 20;
    private static final int MOST_FROSTS = 4;
    private static final int MOST_OPEN = 6;
    private static final int MOST_ROWS = 60;
    private static final int MOST_ACTS = 20;
    private static final int MOST_AHEAD = 120;
    private static final int MOST_AGO = 99;
    private static final int MOST_COINS = 999999;
    private static final int MOST_SEEN = 8;
    private static final int MOST_VALUE = 1000000;

    private static final int FAULT_TEXT = 1;
    private static final int FAULT_NUMBER = 2;
    private static final int FAULT_NAME = 3;
    private static final int FAULT_OPEN = 4;
    private static final int FAULT_MANY = 5;

    // Kinds of token. A sign's kind is its byte; a known word's is WORD and its row in WORDS.
    private static final int NUMERAL = 1;
    private static final int LONG_NUMERAL = 2;
    private static final int NAME = 3;
    private static final int LONG_NAME = 4;
    private static final int STRANGE = 5;
    private static final int FINISH = 6;
    private static final int WORD = 128;

    private static final int W_DAYS = 128;
    private static final int W_PERSON = 129;
    private static final int W_MIND = 130;
    private static final int W_ASKS = 131;
    private static final int W_TOLD = 132;
    private static final int W_ON = 133;
    private static final int W_REMINDS = 134;
    private static final int W_FROST = 135;
    private static final int W_FOR = 136;
    private static final int W_THINKS = 137;
    private static final int W_HEARS = 138;
    private static final int W_SLIPS = 139;
    private static final int W_MORTAL = 140;
    private static final int W_DAY = 141;
    private static final int W_YEAR = 142;
    private static final int W_AGO = 143;
    private static final int W_FEAST = 144;
    private static final int W_OTHER = 145;
    private static final int W_NUMBER = 146;
    private static final int W_DEAD = 147;
    private static final int W_KNOWS = 148;
    private static final int W_OR = 149;
    private static final int W_AND = 150;
    private static final int W_NOT = 151;
    private static final int W_ALL = 152;
    private static final int W_MIN = 153;
    private static final int W_MAX = 154;
    // From here on words that open a QUESTION: they are no OWN WORDS, so they may be NAMES.
    private static final int W_FIRST = 155;
    private static final int W_LAST = 156;
    private static final int W_OFTEN = 157;
    private static final int W_TOTAL = 158;
    private static final int W_MOST = 159;
    private static final int W_LEAST = 160;

    private static final int WORD_COUNT = 33;
    private static final int WORD_WIDTH = 8;
    // In the order of the W_ constants, each padded to WORD_WIDTH signs.
    private static final String WORDS =
        "days    person  mind    asks    told    on      reminds frost   for     thinks  hears   slips   mortal  day     year    ago     feast   other   number  dead    knows   or      and     not     all     min     max     first   last    often   total   most    least   ";
    private static final String SIGNS = "()*+,-/;<=>[]";

    // What the parts of a rule stand for is kept by the row of their word; behind these, who reminds him, as bits.
    private static final int REMINDED_BY = WORD_COUNT;

    private final Tape tape;
    private final Reader reader;
    private Town town;
    private Town spareTown;
    private final Life life;
    private final Life ahead;
    private final Past past;
    private final Dawn dawn;
    private final Picture picture;
    private final int[] seenPerson;
    private final int[] seenThinking;
    private int seenCount;
    private final int[] quietFor;
    private final int[] refused;
    private int faultKind;
    private int faultPlace;
    private long draw;

    public ForgottenFeast() {
        tape = new Tape();
        town = new Town();
        spareTown = new Town();
        reader = new Reader(tape, spareTown);
        life = new Life();
        ahead = new Life();
        past = new Past();
        dawn = new Dawn(town, life);
        picture = new Picture();
        seenPerson = new int[MOST_SEEN];
        seenThinking = new int[MOST_SEEN];
        quietFor = new int[MOST_PEOPLE];
        refused = new int[6];
        faultPlace = NONE;
        draw = 1;
    }

    // ---- the tape and the town

    public int feed(int a, int b, int c, int d, int e) {
        if (tape.length + 20 > MOST_BYTES) {
            return refuse(0);
        }
        tape.addNumber(a);
        tape.addNumber(b);
        tape.addNumber(c);
        tape.addNumber(d);
        tape.addNumber(e);
        return tape.length;
    }

    public boolean end(int n) {
        if (n < 0 || n > tape.length) {
            refuse(0);
            return false;
        }
        tape.length = n;
        return true;
    }

    public int town() {
        boolean good = reader.readTown(spareTown);
        tape.length = 0;
        noteFault();
        if (!good) {
            return refuse(1);
        }
        Town old = town;
        town = spareTown;
        spareTown = old;
        life.begin(town);
        past.forget();
        seenCount = 0;
        return town.statements;
    }

    public int fault(int what) {
        switch (what) {
            case 0: return faultKind;
            case 1: return faultPlace;
            default: return NONE;
        }
    }

    // ---- what there is

    public int has(int what) {
        switch (what) {
            case 0: return town.days;
            case 1: return town.people;
            case 2: return Integer.bitCount(living());
            case 3: return life.year;
            case 4: return life.day;
            case 5: return life.feast;
            case 6: return countBits(life.told);
            case 7: return countBits(life.bribed);
            case 8: return life.coins;
            case 9: return life.rowCount;
            case 10: return seenCount;
            case 11: return past.count;
            default: return NONE;
        }
    }

    public int letter(int person, int k) {
        if (!isPerson(person) || k < 0 || k > 5) {
            return NONE;
        }
        return town.names[person] >> 5 * k & 31;
    }

    public int person(int person, int what) {
        if (!isPerson(person)) {
            return NONE;
        }
        switch (what) {
            case 0: return town.minds[person];
            case 1: return town.asks[person];
            case 2: return life.ago[person];
            case 3: return bit(life.dead, person);
            case 4: return town.reminds[person];
            case 5: return town.remindedBy[person];
            case 6: return daysToldOff(person);
            default: return NONE;
        }
    }

    public int day(int day, int what) {
        if (!isDay(day)) {
            return NONE;
        }
        switch (what) {
            case 0: return life.told[day];
            case 1: return life.bribed[day];
            case 2: return town.frost[day];
            default: return NONE;
        }
    }

    public int kept(int k, int what) {
        if (k < 0 || k >= life.rowCount) {
            return NONE;
        }
        int row = life.rowAt(k);
        switch (what) {
            case 0: return Life.rowYear(row);
            case 1: return Life.rowDay(row);
            case 2: return Life.rowThinkers(row);
            case 3: return Life.rowFeast(row);
            default: return NONE;
        }
    }

    // ---- ahead

    public int later(int n, int what) {
        if (!foresee(n)) {
            return NONE;
        }
        switch (what) {
            case 0: return dawn.ofThemselves;
            case 1: return dawn.thinkers;
            case 2: return dawn.year;
            case 3: return dawn.day;
            case 4: return dawn.isFeast ? 1 : 0;
            default: return NONE;
        }
    }

    public int first(int what) {
        if (what != 0 && what != 1) {
            return NONE;
        }
        int days = Math.min(MOST_AHEAD, life.daysLeft(town));
        ahead.copyFrom(life);
        for (int n = 1; n <= days; n++) {
            dawn.lookAt(town, ahead);
            dawn.settle();
            if (what == 0 ? dawn.isFeast : Integer.bitCount(dawn.thinkers) == 1) {
                return n;
            }
        }
        return NONE;
    }

    public int hangs(int n) {
        return foresee(n) ? hangsOn() : NONE;
    }

    public int sure(int n) {
        if (!isAhead(n)) {
            return NONE;
        }
        int count = 0;
        ahead.copyFrom(life);
        for (int i = 0; i < n; i++) {
            dawn.lookAt(town, ahead);
            dawn.settle();
            if (dawn.thinkers != 0 && hangsOn() == 0) {
                count++;
            }
        }
        return count;
    }

    public int slips(int n) {
        return foresee(n) ? chanceOfNobody(Integer.bitCount(dawn.ofThemselves)) : NONE;
    }

    // ---- bribes, who is enough, turns

    public int costs(int n) {
        return foresee(n) ? priceOf(dawn.ofThemselves) : NONE;
    }

    public int cheapest(int what) {
        if (what != 0 && what != 1 || life.feast != 0) {
            return NONE;
        }
        int bestDay = NONE;
        int bestPrice = NONE;
        boolean hadFeast = false;
        ahead.copyFrom(life);
        for (int d = life.day; d < town.days && !hadFeast; d++) {
            dawn.lookAt(town, ahead);
            dawn.settle();
            int price = priceOf(dawn.ofThemselves);
            if (bestDay == NONE || price < bestPrice) {
                bestDay = dawn.day;
                bestPrice = price;
            }
            hadFeast = dawn.isFeast;
        }
        return what == 0 ? bestDay : bestPrice;
    }

    public int enough(int what) {
        int all = living();
        if (what != 0 && what != 1 || all == 0 || !dawn.lookAt(town, life)) {
            return NONE;
        }
        int best = all;
        for (int set = 1; set < all; set++) {
            boolean fewer = Integer.bitCount(set) < Integer.bitCount(best);
            if (fewer && (set & ~all) == 0 && dawn.spread(set, all) == all) {
                best = set;
            }
        }
        return what == 0 ? Integer.bitCount(best) : best;
    }

    public int turnsOf(int n) {
        if (n < 0 || n > 2 || !dawn.lookAt(town, life)) {
            return NONE;
        }
        int all = living();
        int untold = dawn.ofThemselves(all, 0);
        int told = dawn.ofThemselves(all, all);
        return somebodyByTurns(n, untold, told, all, all) ? 1 : 0;
    }

    // ---- who thought, what all know, laws

    public int see() {
        boolean good = isSight();
        int rows = tape.length / 2;
        tape.length = 0;
        if (!good) {
            return refuse(1);
        }
        for (int i = 0; i < rows && i < MOST_SEEN; i++) {
            seenPerson[i] = tape.bytes[2 * i];
            seenThinking[i] = tape.bytes[2 * i + 1];
        }
        seenCount = rows;
        return rows;
    }

    public int thought(int what) {
        if (what < 0 || what > 2 || !dawn.lookAt(town, life)) {
            return NONE;
        }
        int count = 0;
        int inAll = dawn.awake;
        int inSome = 0;
        for (int set = 0; set <= dawn.awake; set++) {
            if ((set & ~dawn.awake) == 0 && isAsSeen(dawn.spread(set, dawn.awake))) {
                count++;
                inAll &= set;
                inSome |= set;
            }
        }
        if (what == 0) {
            return count;
        }
        return what == 2 ? inSome : count == 0 ? 0 : inAll;
    }

    public int hours(int n) {
        int all = living();
        if (n < 1 || n > 20 || all == 0) {
            return NONE;
        }
        int most = 0;
        for (int p = 0; p < town.people; p++) {
            if (bit(all, p) == 1) {
                int hours = hoursFrom(p, all);
                if (hours == NONE) {
                    return NONE;
                }
                most = Math.max(most, hours);
            }
        }
        return n * most;
    }

    public int law(int what) {
        if (what < 0 || what > 2 || life.rowCount == 0) {
            return NONE;
        }
        int count = 0;
        int least = NONE;
        int greatest = NONE;
        for (int t = 0; t < MOST_AGO; t++) {
            if (isLaw(t)) {
                count++;
                least = least == NONE ? t : least;
                greatest = t;
            }
        }
        if (what == 0) {
            return count;
        }
        return what == 1 ? least : greatest;
    }

    // ---- acts

    public int go(int n) {
        if (n < 1 || n > 200 || n > life.daysLeft(town)) {
            return refuse(2);
        }
        past.remember(life);
        int feasts = 0;
        for (int i = 0; i < n; i++) {
            feasts += liveOneDay();
        }
        return feasts;
    }

    public int tell(int person, int day) {
        if (!isPerson(person) || !isDay(day)) {
            return refuse(3);
        }
        boolean adds = bit(life.told[day], person) == 0;
        if (adds && countBits(life.told) >= MOST_TOLD) {
            return refuse(3);
        }
        past.remember(life);
        life.told[day] ^= 1 << person;
        return adds ? 1 : 0;
    }

    public int bribe(int person, int day) {
        if (!isPerson(person) || !isDay(day) || day <= life.day) {
            return refuse(3);
        }
        if (bit(life.dead | life.bribed[day], person) == 1 || countBits(life.bribed) >= MOST_BRIBES) {
            return refuse(3);
        }
        past.remember(life);
        life.bribed[day] |= 1 << person;
        life.coins = Math.min(MOST_COINS, life.coins + town.asks[person]);
        return town.asks[person];
    }

    public boolean dies(int person) {
        if (!isPerson(person) || bit(life.dead, person) == 1) {
            refuse(3);
            return false;
        }
        past.remember(life);
        life.dead |= 1 << person;
        return true;
    }

    public int chance(int n) {
        if (n < 1 || n > 100 || n > life.daysLeft(town)) {
            return refuse(2);
        }
        past.remember(life);
        int before = Integer.bitCount(life.dead);
        for (int i = 0; i < n; i++) {
            drawDeaths();
            liveOneDay();
        }
        return Integer.bitCount(life.dead) - before;
    }

    public boolean undo() {
        if (past.count == 0) {
            refuse(4);
            return false;
        }
        past.bringBack(life);
        return true;
    }

    public boolean seed(int seed) {
        if (seed < 0) {
            refuse(5);
            return false;
        }
        draw = seed;
        return true;
    }

    // ---- questions

    public long ask(int n) {
        if (!isAhead(n)) {
            tape.length = 0;
            return NOTHING;
        }
        boolean good = reader.readQuestion();
        tape.length = 0;
        noteFault();
        if (!good || !foresee(n)) {
            return NOTHING;
        }
        return answerOf(reader.asked);
    }

    // ---- images, refusals

    public int image() {
        picture.paint(town, life);
        return picture.size;
    }

    public int octet(int k) {
        return k < 0 || k >= picture.size ? NONE : picture.bytes[k];
    }

    public boolean on() {
        boolean good = town.days > 0 && Picture.readInto(tape, town, ahead);
        tape.length = 0;
        if (!good) {
            refuse(5);
            return false;
        }
        life.copyFrom(ahead);
        past.forget();
        return true;
    }

    public int status(int what) {
        return what < 0 || what >= refused.length ? NONE : refused[what];
    }

    // ---- small helpers

    private int refuse(int kind) {
        if (kind >= 0 && kind < refused.length) {
            refused[kind]++;
        }
        return NONE;
    }

    private void noteFault() {
        faultKind = reader.fault;
        faultPlace = reader.place;
    }

    private static int bit(int bits, int k) {
        return bits >> k & 1;
    }

    private static int countBits(int[] rows) {
        int count = 0;
        for (int row : rows) {
            count += Integer.bitCount(row);
        }
        return count;
    }

    private boolean isPerson(int person) {
        return person >= 0 && person < town.people;
    }

    private boolean isDay(int day) {
        return day >= 1 && day <= town.days;
    }

    private int living() {
        return town.everybody() & ~life.dead;
    }

    private int daysToldOff(int person) {
        int count = 0;
        for (int d = 1; d <= town.days; d++) {
            count += bit(life.told[d], person);
        }
        return count;
    }

    private boolean isAhead(int n) {
        return n >= 1 && n <= MOST_AHEAD && n <= life.daysLeft(town);
    }

    /** Leaves in dawn the n-th DAY AHEAD, and in ahead all as it is behind it. */
    private boolean foresee(int n) {
        if (!isAhead(n)) {
            return false;
        }
        ahead.copyFrom(life);
        for (int i = 0; i < n; i++) {
            dawn.lookAt(town, ahead);
            dawn.settle();
        }
        return true;
    }

    /** Somebody thinks just if somebody thinks of himself: so a DAY hangs on one only if no other does. */
    private int hangsOn() {
        return Integer.bitCount(dawn.ofThemselves) == 1 ? dawn.ofThemselves : 0;
    }

    /** In millionths; hundreds that go into the million are taken first, so that no digit is lost or runs over. */
    private int chanceOfNobody(int people) {
        long parts = 1;
        long whole = 1;
        int million = 1000000;
        for (int i = 0; i < people && i < MOST_PEOPLE; i++) {
            parts *= town.slips;
            if (i < 3) {
                million /= 100;
            } else {
                whole *= 100;
            }
        }
        return (int) (parts * million / whole);
    }

    private int priceOf(int people) {
        int price = 0;
        for (int p = 0; p < town.people; p++) {
            price += bit(people, p) * town.asks[p];
        }
        return price;
    }

    /**
     * Whether one side, by telling, gets somebody to think, whatever the other bribes.
     * untold and told are those who think of themselves so or so; free can yet be told, and open be bribed.
     */
    private static boolean somebodyByTurns(int rounds, int untold, int told, int free, int open) {
        if (rounds <= 0) {
            return ((untold & free | told & ~free) & open) != 0;
        }
        for (int p = 0; p < MOST_PEOPLE; p++) {
            boolean canTell = bit(free, p) == 1 || free == 0 && p == 0;
            if (canTell && !canBeSilenced(rounds, untold, told, free & ~(1 << p), open)) {
                return true;
            }
        }
        return false;
    }

    private static boolean canBeSilenced(int rounds, int untold, int told, int free, int open) {
        for (int p = 0; p < MOST_PEOPLE; p++) {
            boolean canBribe = bit(open, p) == 1 || open == 0 && p == 0;
            if (canBribe && !somebodyByTurns(rounds - 1, untold, told, free, open & ~(1 << p))) {
                return true;
            }
        }
        return false;
    }

    private boolean isSight() {
        if (tape.length < 2 || tape.length > 2 * MOST_SEEN || tape.length % 2 != 0) {
            return false;
        }
        int all = living();
        for (int i = 0; i + 1 < tape.length; i += 2) {
            int person = tape.bytes[i];
            if (!isPerson(person) || bit(all, person) == 0 || tape.bytes[i + 1] > 1) {
                return false;
            }
        }
        return true;
    }

    private boolean isAsSeen(int thinkers) {
        for (int i = 0; i < seenCount; i++) {
            if (bit(thinkers, seenPerson[i]) != seenThinking[i]) {
                return false;
            }
        }
        return true;
    }

    /** Hours until what one knows is known to all of these, told on by them alone. */
    private int hoursFrom(int person, int all) {
        int know = 1 << person;
        for (int hours = 0; hours < MOST_PEOPLE; hours++) {
            if (know == all) {
                return hours;
            }
            int next = know;
            for (int p = 0; p < town.people; p++) {
                if (bit(know, p) == 1) {
                    next |= town.reminds[p] & all;
                }
            }
            know = next;
        }
        return NONE;
    }

    private boolean isLaw(int t) {
        Arrays.fill(quietFor, 0);
        for (int k = 0; k < life.rowCount; k++) {
            int row = life.rowAt(k);
            int told = life.toldOn(Life.rowDay(row));
            int count = 0;
            for (int p = 0; p < town.people; p++) {
                if (bit(told, p) == 1 || quietFor[p] > t) {
                    quietFor[p] = 0;
                    count++;
                } else {
                    quietFor[p] = Math.min(MOST_AGO, quietFor[p] + 1);
                }
            }
            if (count != Life.rowThinkers(row)) {
                return false;
            }
        }
        return true;
    }

    private int liveOneDay() {
        dawn.lookAt(town, life);
        dawn.settle();
        life.addRow(Integer.bitCount(dawn.thinkers), dawn.isFeast);
        return dawn.isFeast ? 1 : 0;
    }

    private void drawDeaths() {
        for (int p = 0; p < town.people; p++) {
            if (bit(life.dead, p) == 0) {
                draw = 1103515245L * draw + 12345L & 0x7fffffffL;
                if (draw / 64 % 1000 < town.mortal) {
                    life.dead |= 1 << p;
                }
            }
        }
    }

    private long answerOf(int asked) {
        long answer = asked == W_FIRST || asked == W_LAST ? NONE : 0;
        for (int p = 0; p < town.people; p++) {
            int value = dawn.valueFor(reader.rule, ahead, p);
            switch (asked) {
                case W_FIRST:
                    answer = answer == NONE && value != 0 ? p : answer;
                    break;
                case W_LAST:
                    answer = value != 0 ? p : answer;
                    break;
                case W_MOST:
                    answer = p == 0 ? value : Math.max(answer, value);
                    break;
                case W_LEAST:
                    answer = p == 0 ? value : Math.min(answer, value);
                    break;
                default:
                    answer += value;
                    break;
            }
        }
        return answer;
    }

    /** Bytes that have been fed, 0 to 255 each. */
    private static final class Tape {
        private final int[] bytes = new int[MOST_BYTES];
        private int length;

        private void addNumber(int number) {
            for (int shift = 24; shift >= 0; shift -= 8) {
                if (length < MOST_BYTES) {
                    bytes[length] = number >>> shift & 255;
                    length++;
                }
            }
        }
    }

    /** The tape's text cut into words, numbers and signs; the last one is FINISH, at its length. */
    private static final class Tokens {
        private final Tape tape;
        // Of each its kind (eight bits), the place of its first byte (24 bits) and its value.
        private final long[] marks = new long[MOST_BYTES + 1];
        private int count;

        private Tokens(Tape tape) {
            this.tape = tape;
        }

        private void cut() {
            count = 0;
            boolean touches = false;
            int at = 0;
            while (at < tape.length) {
                int b = tape.bytes[at];
                int to = runFrom(at);
                if (to > at) {
                    // A word and a number side by side without a blank: no text goes on so.
                    int kind = isLetter(b) ? wordKind(at, to) : to - at > 4 ? LONG_NUMERAL : NUMERAL;
                    add(touches ? STRANGE : kind, at, isLetter(b) ? lettersOf(at, to) : numberOf(at, to));
                } else if (b != 10 && b != 32) {
                    add(SIGNS.indexOf((char) b) >= 0 ? b : STRANGE, at, 0);
                }
                touches = to > at;
                at = Math.max(to, at + 1);
            }
            add(FINISH, tape.length, 0);
        }

        private void add(int kind, int place, int value) {
            if (count < marks.length) {
                marks[count] = (long) value << 32 | place << 8 | kind;
                count++;
            }
        }

        /** Where the letters, or the digits, end that begin here. */
        private int runFrom(int from) {
            int to = from;
            boolean word = isLetter(tape.bytes[from]);
            while (to < tape.length && (word ? isLetter(tape.bytes[to]) : isDigit(tape.bytes[to]))) {
                to++;
            }
            return to;
        }

        private int wordKind(int from, int to) {
            for (int w = 0; w < WORD_COUNT; w++) {
                if (isWord(from, to, w)) {
                    return WORD + w;
                }
            }
            return to - from > 6 ? LONG_NAME : NAME;
        }

        private boolean isWord(int from, int to, int w) {
            if (to - from >= WORD_WIDTH) {
                return false;
            }
            for (int i = 0; i < WORD_WIDTH; i++) {
                int b = from + i < to ? tape.bytes[from + i] : ' ';
                if (WORDS.charAt(w * WORD_WIDTH + i) != b) {
                    return false;
                }
            }
            return true;
        }

        /** The first six letters, five bits each, the first one lowest. */
        private int lettersOf(int from, int to) {
            int letters = 0;
            for (int i = from; i < to && i < from + 6; i++) {
                letters |= tape.bytes[i] - 'a' + 1 << 5 * (i - from);
            }
            return letters;
        }

        private int numberOf(int from, int to) {
            int number = 0;
            for (int i = from; i < to && i < from + 4; i++) {
                number = 10 * number + tape.bytes[i] - '0';
            }
            return number;
        }

        private static boolean isLetter(int b) {
            return b >= 'a' && b <= 'z';
        }

        private static boolean isDigit(int b) {
            return b >= '0' && b <= '9';
        }
    }

    /** A TEST or a SUM, its operations behind what they work on; a TEST's value is 1 or 0. */
    private static final class Rule {
        // Below PART a number, from PART on the row of a word, from DEED on the kind of the token that works.
        private static final int PART = 10000;
        private static final int DEED = 20000;

        private int[] codes;
        private int size;

        private Rule(int room) {
            codes = new int[Math.max(0, room)];
        }

        private void add(int code) {
            if (size < codes.length) {
                codes[size] = code;
                size++;
            }
        }

        private void copyFrom(Rule other) {
            if (codes.length < other.size) {
                codes = new int[other.size];
            }
            System.arraycopy(other.codes, 0, codes, 0, other.size);
            size = other.size;
        }

        private int valueOf(int[] parts, int[] stack) {
            int top = 0;
            for (int i = 0; i < size; i++) {
                int code = codes[i];
                if (code < DEED && top < stack.length) {
                    stack[top] = code < PART ? code : partAt(parts, code - PART);
                    top++;
                } else if (code == DEED + W_NOT && top >= 1) {
                    stack[top - 1] = 1 - stack[top - 1];
                } else if (code == DEED + W_KNOWS && top >= 1) {
                    stack[top - 1] = isRemindedBy(stack[top - 1], parts);
                } else if (code >= DEED && top >= 2) {
                    top--;
                    stack[top - 1] = pairUp(code - DEED, stack[top - 1], stack[top]);
                }
            }
            return top > 0 ? stack[0] : 0;
        }

        private static int partAt(int[] parts, int row) {
            return row >= 0 && row < parts.length ? parts[row] : 0;
        }

        private static int isRemindedBy(int number, int[] parts) {
            boolean can = number >= 0 && number < MOST_PEOPLE && parts.length > REMINDED_BY;
            return can ? parts[REMINDED_BY] >> number & 1 : 0;
        }

        private static int pairUp(int deed, int x, int y) {
            long result = 0;
            switch (deed) {
                case '+': result = (long) x + y; break;
                case '-': result = (long) x - y; break;
                case '*': result = (long) x * y; break;
                case '/': result = y == 0 ? 0 : Math.floorDiv(x, y); break;
                case '<': result = x < y ? 1 : 0; break;
                case '>': result = x > y ? 1 : 0; break;
                case '=': result = x == y ? 1 : 0; break;
                case W_AND: result = x & y; break;
                case W_OR: result = x | y; break;
                case W_MIN: result = Math.min(x, y); break;
                case W_MAX: result = Math.max(x, y); break;
                default: break;
            }
            return (int) Math.max(-MOST_VALUE, Math.min(MOST_VALUE, result));
        }
    }

    /** What a TOWN's text tells; without days there is no town. */
    private static final class Town {
        private int days;
        private int statements;
        private int people;
        private int toldCount;
        private int remindsCount;
        private int frostCount;
        private int slips;
        private int mortal;
        private final int[] names = new int[MOST_PEOPLE];
        private final int[] minds = new int[MOST_PEOPLE];
        private final int[] asks = new int[MOST_PEOPLE];
        private final int[] reminds = new int[MOST_PEOPLE];
        private final int[] remindedBy = new int[MOST_PEOPLE];
        private final int[] told = new int[MOST_DAYS + 1];
        private final int[] frost = new int[MOST_DAYS + 1];
        private final Rule thinks = new Rule(0);
        private final Rule hears = new Rule(0);

        private void clear() {
            days = 0;
            statements = 0;
            people = 0;
            toldCount = 0;
            remindsCount = 0;
            frostCount = 0;
            slips = 0;
            mortal = 0;
            Arrays.fill(reminds, 0);
            Arrays.fill(remindedBy, 0);
            Arrays.fill(told, 0);
            Arrays.fill(frost, 0);
            thinks.size = 0;
            hears.size = 0;
        }

        private int everybody() {
            return (1 << people) - 1;
        }

        private int find(int name) {
            for (int p = 0; p < people; p++) {
                if (names[p] == name) {
                    return p;
                }
            }
            return NONE;
        }

        private Rule ruleOf(int statement) {
            return statement == W_HEARS ? hears : thinks;
        }

        private boolean isFull(int statement) {
            switch (statement) {
                case W_PERSON: return people >= MOST_PEOPLE;
                case W_TOLD: return toldCount >= MOST_TOLD;
                case W_REMINDS: return remindsCount >= MOST_REMINDS;
                case W_FROST: return frostCount >= MOST_FROSTS;
                case W_THINKS: return thinks.size > 0;
                case W_HEARS: return hears.size > 0;
                default: return false;
            }
        }

        private void addPerson(int name, int mind, int coins) {
            if (people < MOST_PEOPLE) {
                names[people] = name;
                minds[people] = mind;
                asks[people] = coins;
                people++;
            }
        }

        /** False if he is told off for it already. */
        private boolean addTold(int person, int day) {
            if (day < 1 || day > MOST_DAYS || bit(told[day], person) == 1) {
                return false;
            }
            told[day] |= 1 << person;
            toldCount++;
            return true;
        }

        /** False if they are the same, or he does already. */
        private boolean addReminds(int one, int other) {
            if (one < 0 || other < 0 || one == other || bit(reminds[one], other) == 1) {
                return false;
            }
            reminds[one] |= 1 << other;
            remindedBy[other] |= 1 << one;
            remindsCount++;
            return true;
        }

        private void addFrost(int from, int length) {
            for (int d = from; d < from + length && d <= days; d++) {
                frost[d] = 1;
            }
            frostCount++;
        }
    }

    /** All that changes as DAYS come and ACTS are done. */
    private static final class Life {
        private int year = 1;
        private int day;
        private int feast;
        private int coins;
        private int dead;
        private final int[] ago = new int[MOST_PEOPLE];
        private final int[] told = new int[MOST_DAYS + 1];
        private final int[] bribed = new int[MOST_DAYS + 1];
        // What is KEPT, a ring: YEAR, DAY, how many thought and whether the FEAST in one number.
        private final int[] rows = new int[MOST_ROWS];
        private int rowFrom;
        private int rowCount;

        private void begin(Town town) {
            year = 1;
            day = 0;
            feast = 0;
            coins = 0;
            dead = 0;
            Arrays.fill(ago, 0);
            System.arraycopy(town.told, 0, told, 0, told.length);
            Arrays.fill(bribed, 0);
            rowFrom = 0;
            rowCount = 0;
        }

        private void copyFrom(Life other) {
            year = other.year;
            day = other.day;
            feast = other.feast;
            coins = other.coins;
            dead = other.dead;
            System.arraycopy(other.ago, 0, ago, 0, ago.length);
            System.arraycopy(other.told, 0, told, 0, told.length);
            System.arraycopy(other.bribed, 0, bribed, 0, bribed.length);
            System.arraycopy(other.rows, 0, rows, 0, rows.length);
            rowFrom = other.rowFrom;
            rowCount = other.rowCount;
        }

        private int toldOn(int ofDay) {
            return ofDay >= 0 && ofDay < told.length ? told[ofDay] : 0;
        }

        private int daysLeft(Town town) {
            return (MOST_YEARS - year) * town.days + town.days - day;
        }

        private void addRow(int thinkers, boolean isFeast) {
            int row = ((year * 128 + day) * 16 + thinkers) * 2 + (isFeast ? 1 : 0);
            rows[(rowFrom + rowCount) % MOST_ROWS] = row;
            if (rowCount < MOST_ROWS) {
                rowCount++;
            } else {
                rowFrom = (rowFrom + 1) % MOST_ROWS;
            }
        }

        private int rowAt(int k) {
            return rows[(rowFrom + k) % MOST_ROWS];
        }

        private static int rowYear(int row) {
            return row / 4096;
        }

        private static int rowDay(int row) {
            return row / 32 % 128;
        }

        private static int rowThinkers(int row) {
            return row / 2 % 16;
        }

        private static int rowFeast(int row) {
            return row % 2;
        }
    }

    /** All as it was ahead of each of the last ACTS: a ring, whose places are made when first needed. */
    private static final class Past {
        private final Life[] lives = new Life[MOST_ACTS];
        private int from;
        private int count;

        private void forget() {
            count = 0;
        }

        private void remember(Life life) {
            int at = (from + count) % MOST_ACTS;
            if (lives[at] == null) {
                lives[at] = new Life();
            }
            lives[at].copyFrom(life);
            if (count < MOST_ACTS) {
                count++;
            } else {
                from = (from + 1) % MOST_ACTS;
            }
        }

        private void bringBack(Life life) {
            if (count == 0) {
                return;
            }
            count--;
            Life before = lives[(from + count) % MOST_ACTS];
            if (before != null) {
                life.copyFrom(before);
            }
        }
    }

    /** The DAY that comes next: who thinks of himself, who is reminded, whether it is the FEAST. */
    private static final class Dawn {
        private int year;
        private int day;
        private int feastSoFar;
        private int awake;
        private int ofThemselves;
        private int thinkers;
        private boolean isFeast;
        private boolean coming;
        private Town town;
        private Life life;
        private final int[] parts = new int[WORD_COUNT + 1];
        // Seven levels, with at most six values that wait on each, never need more.
        private final int[] stack = new int[64];
        // By whom one has been tried, and whom he would hear, as bits: a TEST is worked out once a DAY.
        private final int[] tried = new int[MOST_PEOPLE];
        private final int[] heard = new int[MOST_PEOPLE];

        private Dawn(Town town, Life life) {
            this.town = town;
            this.life = life;
        }

        /** Looks at the next DAY, nothing changing; false if there is none. */
        private boolean lookAt(Town ofTown, Life ofLife) {
            coming = ofLife.daysLeft(ofTown) >= 1;
            if (!coming) {
                return false;
            }
            town = ofTown;
            life = ofLife;
            boolean newYear = ofLife.day >= ofTown.days;
            year = newYear ? ofLife.year + 1 : ofLife.year;
            day = newYear ? 1 : ofLife.day + 1;
            feastSoFar = newYear ? 0 : ofLife.feast;
            parts[W_DAY - WORD] = day;
            parts[W_YEAR - WORD] = year;
            parts[W_FROST - WORD] = ofTown.frost[day];
            parts[W_FEAST - WORD] = feastSoFar == 0 ? 0 : 1;
            Arrays.fill(tried, 0);
            Arrays.fill(heard, 0);
            awake = ofTown.everybody() & ~ofLife.dead & ~ofLife.bribed[day];
            ofThemselves = ofThemselves(awake, ofLife.told[day]);
            thinkers = spread(ofThemselves, awake);
            isFeast = feastSoFar == 0 && thinkers == 0;
            return true;
        }

        /** The DAY that was looked at comes. */
        private void settle() {
            if (!coming) {
                return;
            }
            coming = false;
            life.year = year;
            life.day = day;
            life.bribed[day] = 0;
            life.feast = isFeast ? day : feastSoFar;
            for (int p = 0; p < town.people; p++) {
                boolean fresh = isFeast || bit(thinkers, p) == 1;
                life.ago[p] = fresh ? 0 : Math.min(MOST_AGO, life.ago[p] + 1);
            }
        }

        /** Which of these think of themselves, if those are told off. */
        private int ofThemselves(int who, int told) {
            if (town.thinks.size == 0) {
                return who & told;
            }
            int found = 0;
            for (int p = 0; p < town.people; p++) {
                if (bit(who, p) == 1) {
                    setPerson(p, bit(told, p));
                    found |= town.thinks.valueOf(parts, stack) << p;
                }
            }
            return found;
        }

        /** Who thinks in the end, if these do of themselves, and only those of who can be reminded. */
        private int spread(int from, int who) {
            int now = from;
            boolean more = true;
            for (int round = 0; round <= MOST_PEOPLE && more; round++) {
                more = false;
                for (int p = 0; p < town.people; p++) {
                    int by = town.remindedBy[p] & now;
                    if (by != 0 && bit(who & ~now, p) == 1 && wouldHear(p, Integer.numberOfTrailingZeros(by))) {
                        now |= 1 << p;
                        more = true;
                    }
                }
            }
            return now;
        }

        private boolean wouldHear(int p, int by) {
            if (town.hears.size == 0) {
                return true;
            }
            if (by < 0 || by >= MOST_PEOPLE) {
                return false;
            }
            if (bit(tried[p], by) == 0) {
                tried[p] |= 1 << by;
                setPerson(p, bit(life.told[day], p));
                parts[W_OTHER - WORD] = town.minds[by];
                heard[p] |= town.hears.valueOf(parts, stack) << by;
            }
            return bit(heard[p], by) == 1;
        }

        private void setPerson(int p, int told) {
            parts[W_TOLD - WORD] = told;
            parts[W_AGO - WORD] = life.ago[p];
            parts[W_MIND - WORD] = town.minds[p];
        }

        /** What a QUESTION's rule says of one of the PEOPLE, when the DAY has come and all is as in behind. */
        private int valueFor(Rule rule, Life behind, int p) {
            parts[W_NUMBER - WORD] = p;
            parts[W_MIND - WORD] = town.minds[p];
            parts[W_TOLD - WORD] = bit(behind.told[day], p);
            parts[W_AGO - WORD] = behind.ago[p];
            parts[W_DEAD - WORD] = bit(behind.dead, p);
            parts[W_FEAST - WORD] = isFeast ? 1 : 0;
            parts[W_DAY - WORD] = day;
            parts[W_THINKS - WORD] = bit(thinkers, p);
            parts[REMINDED_BY] = town.remindedBy[p];
            return rule.valueOf(parts, stack);
        }
    }

    /** AN IMAGE as it is written, and how one is read. */
    private static final class Picture {
        private static final int HEAD = 7;

        private final int[] bytes = new int[HEAD + 2 * MOST_PEOPLE + 2 * MOST_TOLD + 2 * MOST_BRIBES + 3];
        private int size;

        private void paint(Town town, Life life) {
            size = 0;
            add(life.year / 256);
            add(life.year % 256);
            add(life.day);
            add(life.feast);
            add(life.coins / 65536);
            add(life.coins / 256 % 256);
            add(life.coins % 256);
            for (int p = 0; p < town.people; p++) {
                add(life.ago[p]);
                add(bit(life.dead, p));
            }
            addList(life.told);
            addList(life.bribed);
            add(checkOf(bytes, size));
        }

        private void add(int b) {
            if (size < bytes.length) {
                bytes[size] = b;
                size++;
            }
        }

        private void addList(int[] list) {
            add(countBits(list));
            for (int d = 1; d < list.length; d++) {
                for (int p = 0; p < MOST_PEOPLE; p++) {
                    if (bit(list[d], p) == 1) {
                        add(d);
                        add(p);
                    }
                }
            }
        }

        private static int checkOf(int[] from, int length) {
            int c = 239;
            for (int i = 0; i < length && i < from.length; i++) {
                c = (3 * c + from[i]) % 251;
            }
            return c;
        }

        /** False if the tape is no image of this town; what is in into is worth nothing then. */
        private static boolean readInto(Tape tape, Town town, Life into) {
            int last = tape.length - 1;
            if (last < HEAD + 2 * town.people + 2 || tape.bytes[last] != checkOf(tape.bytes, last)) {
                return false;
            }
            into.begin(town);
            Arrays.fill(into.told, 0);
            if (!readHead(tape.bytes, town, into) || !readPeople(tape.bytes, town, into)) {
                return false;
            }
            int at = readList(tape, HEAD + 2 * town.people, town, into.told, 1);
            at = readList(tape, at, town, into.bribed, into.day + 1);
            return at == last;
        }

        private static boolean readHead(int[] from, Town town, Life into) {
            into.year = from[0] * 256 + from[1];
            into.day = from[2];
            into.feast = from[3];
            into.coins = from[4] * 65536 + from[5] * 256 + from[6];
            boolean isDay = into.day <= town.days && (into.day >= 1 || into.year == 1);
            return into.year >= 1 && into.year <= MOST_YEARS && isDay
                && into.feast <= into.day && into.coins <= MOST_COINS;
        }

        private static boolean readPeople(int[] from, Town town, Life into) {
            for (int p = 0; p < town.people; p++) {
                into.ago[p] = from[HEAD + 2 * p];
                int dead = from[HEAD + 2 * p + 1];
                if (into.ago[p] > MOST_AGO || dead > 1) {
                    return false;
                }
                into.dead |= dead << p;
            }
            return true;
        }

        /** Where what is behind the list begins; NONE if it is no list of such DAYS and PEOPLE. */
        private static int readList(Tape tape, int at, Town town, int[] into, int firstDay) {
            int last = tape.length - 1;
            if (at < 0 || at >= last) {
                return NONE;
            }
            int count = tape.bytes[at];
            if (count > MOST_TOLD || at + 1 + 2 * count > last) {
                return NONE;
            }
            int before = NONE;
            for (int i = 0; i < count; i++) {
                int day = tape.bytes[at + 1 + 2 * i];
                int person = tape.bytes[at + 2 + 2 * i];
                int order = day * MOST_PEOPLE + person;
                if (day < firstDay || day > town.days || person >= town.people || order <= before) {
                    return NONE;
                }
                into[day] |= 1 << person;
                before = order;
            }
            return at + 1 + 2 * count;
        }
    }

    /** Reads TOWNS and QUESTIONS, up to the first FAULT along the text. */
    private static final class Reader {
        private final Tokens tokens;
        // The rule read last: a QUESTION's stays here, a TOWN's are copied from here.
        private final Rule rule = new Rule(MOST_BYTES);
        private Town town;
        // The token that is next: which one, its kind, its place, its value.
        private int at;
        private int kind;
        private int spot;
        private int value;
        private int opened;
        private int fault;
        private int place;
        private int asked;
        private boolean asking;
        private boolean hearing;

        private Reader(Tape tape, Town town) {
            tokens = new Tokens(tape);
            this.town = town;
        }

        private boolean readTown(Town into) {
            begin();
            asking = false;
            town = into;
            town.clear();
            for (int i = 0; i <= MOST_STATEMENTS && kind != FINISH; i++) {
                readStatement();
            }
            if (town.statements == 0) {
                fail(FAULT_TEXT, spot);
            }
            return fault == 0;
        }

        private boolean readQuestion() {
            begin();
            asking = true;
            rule.size = 0;
            asked = kind;
            pass(asked >= W_FIRST, FAULT_TEXT);
            if (asked <= W_OFTEN) {
                readTest();
            } else {
                readSum();
            }
            if (kind != FINISH) {
                fail(FAULT_TEXT, spot);
            }
            return fault == 0;
        }

        private void begin() {
            tokens.cut();
            opened = 0;
            fault = 0;
            place = NONE;
            at = NONE;
            pass(true, 0);
        }

        /** Goes on to the next token if this one is good, else it is a FAULT. */
        private void pass(boolean good, int otherwise) {
            if (!good) {
                place = fault == 0 ? spot : place;
                fault = fault == 0 ? otherwise : fault;
                kind = FINISH;
            } else if (at + 1 < tokens.count) {
                at++;
                long mark = tokens.marks[at];
                kind = (int) (mark & 255);
                spot = (int) (mark >> 8 & 0xffffff);
                value = (int) (mark >> 32);
            }
        }

        /** Only the first FAULT counts; nothing is read behind it, for FINISH is none of what is asked. */
        private void fail(int faultKind, int where) {
            if (fault == 0) {
                fault = faultKind;
                place = where;
            }
            kind = FINISH;
        }

        private void readStatement() {
            int statement = kind;
            int start = spot;
            pass(town.statements < MOST_STATEMENTS && !town.isFull(statement), FAULT_MANY);
            if ((statement == W_DAYS) != (town.statements == 0)) {
                fail(FAULT_TEXT, start);
            }
            switch (statement) {
                case W_DAYS: town.days = readNumber(5, MOST_DAYS); break;
                case W_PERSON: readPerson(); break;
                case W_TOLD: readTold(); break;
                case W_REMINDS: readReminds(); break;
                case W_FROST: readFrost(); break;
                case W_THINKS:
                case W_HEARS:
                    rule.size = 0;
                    hearing = statement == W_HEARS;
                    readTest();
                    town.ruleOf(statement).copyFrom(rule);
                    break;
                case W_SLIPS: town.slips = readNumber(0, 100); break;
                case W_MORTAL: town.mortal = readNumber(0, 1000); break;
                default: fail(FAULT_TEXT, start); break;
            }
            pass(kind == ';', FAULT_TEXT);
            town.statements++;
        }

        private void readPerson() {
            int name = value;
            boolean isNew = town.find(name) == NONE;
            readName(isNew);
            pass(kind == W_MIND, FAULT_TEXT);
            int mind = readNumber(1, 99);
            pass(kind == W_ASKS, FAULT_TEXT);
            int coins = readNumber(0, 99);
            if (fault == 0) {
                town.addPerson(name, mind, coins);
            }
        }

        private void readTold() {
            int person = town.find(value);
            readName(person != NONE);
            pass(kind == W_ON, FAULT_TEXT);
            int where = spot;
            int day = readNumber(1, town.days);
            if (fault == 0 && !town.addTold(person, day)) {
                fail(FAULT_NUMBER, where);
            }
        }

        private void readReminds() {
            int one = town.find(value);
            readName(one != NONE);
            int other = town.find(value);
            int where = spot;
            readName(other != NONE);
            if (fault == 0 && !town.addReminds(one, other)) {
                fail(FAULT_NAME, where);
            }
        }

        private void readFrost() {
            int from = readNumber(1, town.days);
            pass(kind == W_FOR, FAULT_TEXT);
            int length = readNumber(1, 30);
            if (fault == 0) {
                town.addFrost(from, length);
            }
        }

        private int readNumber(int least, int most) {
            int number = value;
            if (kind != NUMERAL) {
                fail(FAULT_TEXT, kind == LONG_NUMERAL ? spot + 4 : spot);
                return least;
            }
            pass(number >= least && number <= most, FAULT_NUMBER);
            return number;
        }

        /** Goes past a NAME that can be one here. */
        private void readName(boolean good) {
            if (kind == NAME || kind >= W_FIRST) {
                pass(good, FAULT_NAME);
            } else {
                fail(FAULT_TEXT, kind == LONG_NAME ? spot + 6 : spot);
            }
        }

        /** Goes past what opens here, if no more than six are open then. */
        private boolean open() {
            pass(opened < MOST_OPEN, FAULT_OPEN);
            opened++;
            return fault == 0;
        }

        /** An 'or' waits until all that 'and' joins on its right has been read. */
        private void readTest() {
            readFact();
            boolean waiting = false;
            for (int i = 0; i < MOST_BYTES && (kind == W_OR || kind == W_AND); i++) {
                boolean joinsCloser = kind == W_AND;
                pass(true, 0);
                if (!joinsCloser && waiting) {
                    rule.add(Rule.DEED + W_OR);
                }
                readFact();
                if (joinsCloser) {
                    rule.add(Rule.DEED + W_AND);
                } else {
                    waiting = true;
                }
            }
            if (waiting) {
                rule.add(Rule.DEED + W_OR);
            }
        }

        private void readFact() {
            if (kind == W_NOT) {
                if (open()) {
                    readFact();
                    rule.add(Rule.DEED + W_NOT);
                    opened--;
                }
            } else if (kind == '[') {
                if (open()) {
                    readTest();
                    pass(kind == ']', FAULT_TEXT);
                    opened--;
                }
            } else if (kind == W_ALL) {
                pass(true, 0);
                rule.add(1);
            } else {
                readSum();
                int sign = kind;
                pass(sign == '<' || sign == '>' || sign == '=', FAULT_TEXT);
                readSum();
                rule.add(Rule.DEED + sign);
            }
        }

        /** A + or - waits until all that * and / join on its right has been read. */
        private void readSum() {
            readPart();
            int waiting = 0;
            for (int i = 0; i < MOST_BYTES && isSumSign(kind); i++) {
                int sign = kind;
                boolean joinsCloser = sign == '*' || sign == '/';
                pass(true, 0);
                if (!joinsCloser && waiting != 0) {
                    rule.add(Rule.DEED + waiting);
                }
                readPart();
                if (joinsCloser) {
                    rule.add(Rule.DEED + sign);
                } else {
                    waiting = sign;
                }
            }
            if (waiting != 0) {
                rule.add(Rule.DEED + waiting);
            }
        }

        private static boolean isSumSign(int kind) {
            return kind == '+' || kind == '-' || kind == '*' || kind == '/';
        }

        private void readPart() {
            int part = kind;
            if (part == '(') {
                readSumsInside(false);
            } else if (part == W_MIN || part == W_MAX) {
                pass(true, 0);
                readSumsInside(true);
                rule.add(Rule.DEED + part);
            } else if (part == W_KNOWS && asking) {
                if (open()) {
                    readPart();
                    rule.add(Rule.DEED + W_KNOWS);
                    opened--;
                }
            } else if (isPartWord(part)) {
                pass(true, 0);
                rule.add(Rule.PART + part - WORD);
            } else {
                rule.add(readNumber(0, 9999));
            }
        }

        private void readSumsInside(boolean two) {
            if (kind != '(') {
                fail(FAULT_TEXT, spot);
            } else if (open()) {
                readSum();
                if (two) {
                    pass(kind == ',', FAULT_TEXT);
                    readSum();
                }
                pass(kind == ')', FAULT_TEXT);
                opened--;
            }
        }

        private boolean isPartWord(int word) {
            switch (word) {
                case W_MIND: case W_TOLD: case W_AGO: case W_FEAST: case W_DAY: return true;
                case W_NUMBER: case W_DEAD: case W_THINKS: return asking;
                case W_YEAR: case W_FROST: return !asking;
                case W_OTHER: return !asking && hearing;
                default: return false;
            }
        }
    }
}
