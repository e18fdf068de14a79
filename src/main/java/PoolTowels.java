import java.util.NoSuchElementException;

/** Towels before breakfast; the document's words in capitals stand for its terms. */
public final class PoolTowels {
    public static final int NONE = -1;

    private static final int HALVES = 24;
    private static final int LAST_HALF = 23;
    private static final int NOON = 12;
    private static final int MOST_CHAIRS = 8;
    private static final int MOST_GUESTS = 8;
    private static final int MOST_CLAUSES = 60;
    private static final int MOST_LINES = 12;
    private static final int MOST_OPEN = 6;
    private static final int MOST_DAYS = 200;
    private static final int MOST_CHANGES = 20;
    private static final int MOST_IMAGES = 3;
    private static final int MOST_PRICE = 999;
    private static final int TAPE_BYTES = 600;
    private static final int FED_BYTES = 20;
    private static final int SHORT_TEXT = 150;
    private static final int STILL_GUESTS = 4;

    private static final int CANNOT_STAND = 1;
    private static final int NO_SUCH_NUMBER = 2;
    private static final int TOO_MANY = 3;
    private static final int FAULT_LESS = 10;

    // What is kept of a GUEST in a Course, in the order in which did() asks for it.
    private static final int FACTS = 8;
    private static final int CAME = 0;
    private static final int FIRST_CHAIR = 1;
    private static final int LAY = 2;
    private static final int GOT = 3;
    private static final int NET = 4;
    private static final int TOOK = 5;
    private static final int OFFS = 6;
    private static final int WAITED = 7;

    // What is kept of a CHAIR in a Course, in the order in which chair() asks for it from 2 on.
    private static final int CHAIR_FACTS = 3;
    private static final int LAIN_ON = 0;
    private static final int IDLE = 1;
    private static final int TAKEN = 2;

    private static final int NO_ELEMENT = 0;
    private static final int BAD_ARGUMENT = 1;
    private static final int BAD_STATE = 2;

    private final int[] tape = new int[TAPE_BYTES];
    private final Text text = new Text(tape);
    private final Pool pool = new Pool();
    private final Pool draft = new Pool();
    private final Habits habits = new Habits();
    private final HabitReader reader = new HabitReader(text);
    private final Book lines = new Book();
    private final Days days = new Days(pool, habits);
    private final Days supposed = new Days(pool, habits);
    private final Course today = new Course(pool, true);
    private final Course trial = new Course(pool, false);
    private final Giving giving = new Giving(pool);
    private final Changes changes = new Changes();
    private final int[] morning = new int[MOST_GUESTS];
    private final int[] tally = new int[MOST_GUESTS];
    private final int[] refused = new int[3];
    private Stillness stillness;
    private int fed;
    private int theDay;
    private boolean looked;

    public PoolTowels() {
        pool.clear();
        habits.clear();
    }

    public int feed(int a, int b, int c, int d, int e) {
        if (fed + FED_BYTES > TAPE_BYTES) {
            return NONE;
        }
        putBytes(a);
        putBytes(b);
        putBytes(c);
        putBytes(d);
        putBytes(e);
        return fed;
    }

    public int pool(int n) throws IllegalArgumentException {
        needWithin(n, 0, fed);
        startText(n);
        if (!draft.read(text)) {
            return text.kind - FAULT_LESS;
        }
        pool.copy(draft);
        habits.clear();
        lines.clear();
        giving.forget();
        changes.clear();
        theDay = 0;
        forgetDays();
        return pool.guests;
    }

    public int habit(int guest, int n) throws NoSuchElementException, IllegalArgumentException {
        needGuest(guest);
        needWithin(n, 0, Math.min(fed, SHORT_TEXT));
        startText(n);
        if (!reader.read()) {
            return text.kind - FAULT_LESS;
        }
        habits.keep(guest, reader);
        forgetDays();
        return 1;
    }

    public int book(int n) throws IllegalArgumentException {
        needWithin(n, 0, Math.min(fed, SHORT_TEXT));
        startText(n);
        if (!lines.read(text, pool.guests)) {
            return text.kind - FAULT_LESS;
        }
        return lines.size;
    }

    public int fault() {
        return text.place;
    }

    public int told(int what) throws IllegalArgumentException {
        needWithin(what, 0, 6);
        switch (what) {
            case 0:
                return pool.chairs;
            case 1:
                return pool.guests;
            case 2:
                return pool.goes;
            case 3:
                return pool.unused;
            case 4:
                return pool.price;
            case 5:
                return theDay;
            default:
                return lines.size;
        }
    }

    public int chair(int chair, int what) throws NoSuchElementException, IllegalArgumentException {
        needChair(chair);
        needWithin(what, 0, 4);
        if (what == 0) {
            return pool.ahead[chair];
        }
        if (what == 1) {
            return pool.behind[chair];
        }
        look();
        return today.chairFacts[chair * CHAIR_FACTS + what - 2];
    }

    public int guest(int guest, int what) throws NoSuchElementException, IllegalArgumentException {
        needGuest(guest);
        needWithin(what, 0, 3);
        switch (what) {
            case 0:
                return pool.wake[guest];
            case 1:
                return pool.from[guest];
            case 2:
                return pool.till[guest];
            default:
                return pool.cost[guest];
        }
    }

    public int day(int day) throws IllegalArgumentException {
        needWithin(day, 0, MOST_DAYS - 1);
        int was = theDay;
        theDay = day;
        looked = false;
        return was;
    }

    public int did(int guest, int what) throws NoSuchElementException, IllegalArgumentException {
        needGuest(guest);
        needWithin(what, 0, FACTS - 1);
        look();
        return today.facts[guest * FACTS + what];
    }

    public int towel(int chair, int half) throws NoSuchElementException, IllegalArgumentException {
        needChair(chair);
        needWithin(half, 0, LAST_HALF);
        look();
        return today.towels[chair * HALVES + half];
    }

    public int lies(int chair, int half) throws NoSuchElementException, IllegalArgumentException {
        needChair(chair);
        needWithin(half, 0, LAST_HALF);
        look();
        int whose = today.towels[chair * HALVES + half];
        // Who has a towel on a CHAIR lies on it from F on.
        return whose != NONE && half >= pool.from[whose] ? whose : NONE;
    }

    public int waits(int half) throws IllegalArgumentException {
        needWithin(half, 0, LAST_HALF);
        look();
        return today.waiting[half];
    }

    public int sums(int what) throws IllegalArgumentException {
        needWithin(what, 0, 5);
        look();
        switch (what) {
            case 0:
                return today.total(GOT);
            case 1:
                return today.total(NET);
            case 2:
                return today.idle();
            case 3:
                return today.sleepLost();
            case 4:
                return Integer.bitCount(today.seated());
            default:
                return today.total(OFFS);
        }
    }

    public int worth(int guest, int chair, int half) throws NoSuchElementException, IllegalArgumentException {
        needGuest(guest);
        needChair(chair);
        needWithin(half, 0, LAST_HALF);
        return pool.value(guest, chair, half);
    }

    public int would(int guest, int mine, int first, int last, int got, int lain, int day)
            throws NoSuchElementException, IllegalArgumentException {
        needGuest(guest);
        needWithin(mine, 0, LAST_HALF);
        needWithin(first, 0, LAST_HALF);
        needWithin(last, 0, LAST_HALF);
        needWithin(got, 0, 1);
        needWithin(lain, 0, LAST_HALF);
        needWithin(day, 0, 999);
        habits.setCommon(pool, first, last, day);
        habits.setOwn(mine, got, lain, 0);
        habits.setGuest(pool, guest);
        return habits.comes(guest);
    }

    public int round(int what) throws IllegalArgumentException {
        needWithin(what, 0, 1);
        days.reach(MOST_DAYS - 1);
        if (days.roundDays == 0) {
            return NONE;
        }
        return what == 0 ? days.roundFrom : days.roundDays;
    }

    public int out(int guest) throws NoSuchElementException {
        needGuest(guest);
        days.reach(MOST_DAYS - 1);
        for (int day = 1; day < MOST_DAYS; day++) {
            if (!days.wasSeated(day, guest)) {
                return day;
            }
        }
        return NONE;
    }

    public int had(int guest, int n) throws NoSuchElementException, IllegalArgumentException {
        needGuest(guest);
        needWithin(n, 1, MOST_DAYS);
        days.reach(n - 1);
        int often = 0;
        for (int day = 0; day < n; day++) {
            if (days.wasSeated(day, guest)) {
                often++;
            }
        }
        return often;
    }

    public int still(int n, int what) throws IllegalArgumentException, IllegalStateException {
        needWithin(n, 2, 8);
        needWithin(what, 0, 1);
        needFewGuests();
        // Its rows are large and seldom wanted, so they are made at the first call.
        if (stillness == null) {
            stillness = new Stillness(pool, trial);
        }
        stillness.find(n);
        return what == 0 ? stillness.mornings : stillness.first;
    }

    public int net(int guest, int halves) throws NoSuchElementException, IllegalArgumentException {
        needGuest(guest);
        int rest = halves;
        for (int g = pool.guests - 1; g >= 0; g--) {
            morning[g] = rest % 10;
            rest /= 10;
        }
        needArgument(halves >= 0 && rest == 0);
        trial.goByNumber();
        trial.run(morning, pool.unused);
        return trial.facts[guest * FACTS + NET];
    }

    public int given() {
        giving.learn();
        return giving.most;
    }

    public int gets(int guest) throws NoSuchElementException {
        needGuest(guest);
        giving.learn();
        return giving.gifts[guest];
    }

    public int waste() {
        look();
        giving.learn();
        return giving.most - today.total(GOT);
    }

    public int more(int a, int b) throws IllegalArgumentException {
        needWithin(a, 0, 9);
        needWithin(b, 0, 9);
        giving.learn();
        return giving.mostWith(a, b) - giving.most;
    }

    public int want(int price) throws IllegalArgumentException {
        needWithin(price, 0, MOST_PRICE);
        giving.learn();
        return giving.takersAt(price);
    }

    public int just(int what) throws IllegalArgumentException {
        needWithin(what, 0, 1);
        giving.learn();
        for (int i = 0; i <= MOST_PRICE; i++) {
            int price = what == 0 ? i : MOST_PRICE - i;
            if (giving.takersAt(price) == pool.chairs) {
                return price;
            }
        }
        return NONE;
    }

    public int off(int what) throws IllegalArgumentException {
        needWithin(what, 0, 1);
        days.reach(theDay);
        days.tell(theDay, morning);
        trial.goByNumber();
        int best = NONE;
        int most = NONE;
        for (int unused = 1; unused <= LAST_HALF; unused++) {
            trial.run(morning, unused);
            int all = trial.total(GOT);
            if (all > most) {
                most = all;
                best = unused;
            }
        }
        return what == 0 ? best : most;
    }

    public int turnsOf(int n) throws IllegalArgumentException {
        needWithin(n, 1, 99);
        int guests = pool.guests;
        if (guests == 0) {
            return 0;
        }
        clearTally();
        // Chairs beyond the number of guests would come round to one who has his already.
        int dealt = Math.min(pool.chairs, guests);
        for (int day = 0; day < n; day++) {
            for (int i = 0; i < dealt; i++) {
                tally[(day * pool.chairs + i) % guests]++;
            }
        }
        int most = tally[0];
        int least = tally[0];
        for (int g = 1; g < guests; g++) {
            most = Math.max(most, tally[g]);
            least = Math.min(least, tally[g]);
        }
        return most - least;
    }

    public int lot(int seed, int what) throws IllegalArgumentException {
        needWithin(what, 0, 2);
        days.reach(theDay);
        days.tell(theDay, morning);
        trial.goByLot(seed);
        trial.run(morning, pool.unused);
        if (what == 0) {
            return trial.total(GOT);
        }
        return what == 1 ? trial.seated() : trial.idle();
    }

    public int lucky(int guest, int seed, int many) throws NoSuchElementException, IllegalArgumentException {
        needGuest(guest);
        needWithin(many, 1, 40);
        days.reach(theDay);
        days.tell(theDay, morning);
        int often = 0;
        for (int i = 0; i < many; i++) {
            trial.goByLot(seed + i);
            trial.run(morning, pool.unused);
            if (trial.facts[guest * FACTS + TOOK] > 0) {
                often++;
            }
        }
        return often;
    }

    public int summer(int seed, int n, int what) throws IllegalArgumentException {
        needWithin(n, 1, 60);
        needWithin(what, 0, 3);
        clearTally();
        int next = seed;
        int got = 0;
        int idle = 0;
        for (int day = 0; day < n; day++) {
            if (day == 0) {
                pool.tellWaking(morning);
            } else {
                habits.nextMorning(trial, days.whose, day, morning);
            }
            next = trial.goByLot(next);
            trial.run(morning, pool.unused);
            got += trial.total(GOT);
            idle += trial.idle();
            tallySeated(trial.seated());
        }
        switch (what) {
            case 0:
                return got;
            case 1:
                return idle;
            case 2:
                return firstOfMost();
            default:
                return trial.sleepLost();
        }
    }

    public int fits(int guest) throws NoSuchElementException {
        needGuest(guest);
        int bits = 0;
        for (int owner = 0; owner < pool.guests; owner++) {
            supposed.forget();
            supposed.whose[guest] = owner;
            if (lines.firstNotSo(guest, supposed) == lines.size) {
                bits |= 1 << owner;
            }
            supposed.whose[guest] = guest;
        }
        return bits;
    }

    public int right() {
        return lines.firstNotSo(NONE, days);
    }

    public int early(int half) throws IllegalArgumentException {
        needWithin(half, 0, LAST_HALF);
        look();
        int bits = 0;
        for (int g = 0; g < pool.guests; g++) {
            if (today.facts[g * FACTS + CAME] <= half) {
                bits |= 1 << g;
            }
        }
        return bits;
    }

    public int hotel(int g, int l) throws IllegalArgumentException {
        needWithin(g, 0, 23);
        needWithin(l, 1, 23);
        if (!changes.add(Changes.HOTEL, pool.goes, pool.unused)) {
            return 0;
        }
        pool.goes = g;
        pool.unused = l;
        forgetDays();
        return 1;
    }

    public int hire(int p) throws IllegalArgumentException {
        needWithin(p, 0, 99);
        if (!changes.add(Changes.HIRE, pool.price, 0)) {
            return 0;
        }
        pool.price = p;
        forgetDays();
        return 1;
    }

    public int wakes(int guest, int half) throws NoSuchElementException, IllegalArgumentException {
        needGuest(guest);
        needWithin(half, 0, LAST_HALF);
        if (!changes.add(Changes.WAKES, guest, pool.wake[guest])) {
            return 0;
        }
        pool.wake[guest] = half;
        forgetDays();
        return 1;
    }

    public int undo() {
        if (changes.size == 0) {
            return NONE;
        }
        changes.takeBack(pool);
        forgetDays();
        return changes.size;
    }

    public int image() {
        return changes.keepImage(pool, theDay) ? changes.imageCount : NONE;
    }

    public int restore() {
        Image latest = changes.takeImage();
        if (latest == null) {
            return NONE;
        }
        latest.giveBack(pool, changes);
        theDay = latest.theDay;
        forgetDays();
        return changes.imageCount;
    }

    public int status(int what) {
        return what < 0 || what >= refused.length ? NONE : refused[what];
    }

    public int count(int what) {
        switch (what) {
            case 0:
                return changes.imageCount;
            case 1:
                return fed;
            case 2:
                return changes.size;
            default:
                return NONE;
        }
    }

    private void putBytes(int four) {
        for (int shift = 24; shift >= 0; shift -= 8) {
            tape[fed] = four >>> shift & 255;
            fed++;
        }
    }

    private void startText(int length) {
        text.begin(length);
        fed = 0;
    }

    private void forgetDays() {
        days.forget();
        looked = false;
        if (stillness != null) {
            stillness.forget();
        }
    }

    /** Goes through the DAY that is, if it was not yet gone through since the last change. */
    private void look() {
        if (!looked) {
            days.reach(theDay);
            days.tell(theDay, morning);
            today.run(morning, pool.unused);
            looked = true;
        }
    }

    private void clearTally() {
        for (int g = 0; g < MOST_GUESTS; g++) {
            tally[g] = 0;
        }
    }

    private void tallySeated(int bits) {
        for (int g = 0; g < MOST_GUESTS; g++) {
            tally[g] += bits >> g & 1;
        }
    }

    private int firstOfMost() {
        int best = NONE;
        for (int g = 0; g < pool.guests; g++) {
            if (best == NONE || tally[g] > tally[best]) {
                best = g;
            }
        }
        return best;
    }

    private void needGuest(int guest) {
        if (guest < 0 || guest >= pool.guests) {
            refused[NO_ELEMENT]++;
            throw new NoSuchElementException("no such guest");
        }
    }

    private void needChair(int chair) {
        if (chair < 0 || chair >= pool.chairs) {
            refused[NO_ELEMENT]++;
            throw new NoSuchElementException("no such chair");
        }
    }

    private void needWithin(int value, int least, int most) {
        needArgument(value >= least && value <= most);
    }

    private void needArgument(boolean isFit) {
        if (!isFit) {
            refused[BAD_ARGUMENT]++;
            throw new IllegalArgumentException("a number that is none such");
        }
    }

    private void needFewGuests() {
        if (pool.guests > STILL_GUESTS) {
            refused[BAD_STATE]++;
            throw new IllegalStateException("more guests than mornings are sought for");
        }
    }

    /** A text that is read from the left, and the first FAULT in it. */
    private static final class Text {
        static final int END = -1;
        private static final int ENOUGH = 1000;

        private final int[] bytes;
        private int length;
        int at;
        int kind;
        int place = NONE;

        Text(int[] bytes) {
            this.bytes = bytes;
        }

        void begin(int n) {
            length = n;
            at = 0;
            kind = 0;
            place = NONE;
        }

        boolean fail(int faultKind, int where) {
            kind = faultKind;
            place = where;
            return false;
        }

        /** Goes over blanks; the byte behind them, or END. */
        int peek() {
            while (at < length && bytes[at] == ' ') {
                at++;
            }
            return at < length ? bytes[at] : END;
        }

        boolean takeSign(char sign) {
            if (peek() != sign) {
                return fail(CANNOT_STAND, at);
            }
            at++;
            return true;
        }

        boolean takeWord(String word) {
            peek();
            if (which(word) == NONE) {
                return fail(CANNOT_STAND, at);
            }
            passWord();
            return true;
        }

        /** A number of these, or NONE behind a FAULT. */
        int number(int least, int most) {
            if (!isDigit(peek())) {
                fail(CANNOT_STAND, at);
                return NONE;
            }
            int start = at;
            int value = 0;
            while (at < length && isDigit(bytes[at])) {
                // Kept small, since any number of digits may stand here.
                value = Math.min(value * 10 + bytes[at] - '0', ENOUGH);
                at++;
            }
            if (value < least || value > most) {
                fail(NO_SUCH_NUMBER, start);
                return NONE;
            }
            return value;
        }

        /** Which of a list's words, parted by blanks there, is the whole word here; NONE: none is. */
        int which(String list) {
            int size = wordEnd() - at;
            int index = 0;
            int start = 0;
            for (int i = 0; i <= list.length(); i++) {
                if (i == list.length() || list.charAt(i) == ' ') {
                    if (size == i - start && isAlike(list, start, size)) {
                        return index;
                    }
                    index++;
                    start = i + 1;
                }
            }
            return NONE;
        }

        void passWord() {
            at = wordEnd();
        }

        private int wordEnd() {
            int end = at;
            while (end < length && bytes[end] >= 'a' && bytes[end] <= 'z') {
                end++;
            }
            return end;
        }

        private boolean isAlike(String list, int start, int size) {
            for (int i = 0; i < size; i++) {
                if (bytes[at + i] != list.charAt(start + i)) {
                    return false;
                }
            }
            return true;
        }

        static boolean isDigit(int sign) {
            return sign >= '0' && sign <= '9';
        }
    }

    /** A POOL: CHAIRS, GUESTS and the hotel. */
    private static final class Pool {
        private static final String WORDS = "chair guest goes off hire";

        // In the order of the document's letters: A, B; U, F, T, C; then G, L, P.
        final int[] ahead = new int[MOST_CHAIRS];
        final int[] behind = new int[MOST_CHAIRS];
        final int[] wake = new int[MOST_GUESTS];
        final int[] from = new int[MOST_GUESTS];
        final int[] till = new int[MOST_GUESTS];
        final int[] cost = new int[MOST_GUESTS];
        int goes;
        int unused;
        int price;
        int chairs;
        int guests;

        void clear() {
            chairs = 0;
            guests = 0;
            goes = 0;
            unused = 2;
            price = 0;
        }

        void copy(Pool other) {
            System.arraycopy(other.ahead, 0, ahead, 0, MOST_CHAIRS);
            System.arraycopy(other.behind, 0, behind, 0, MOST_CHAIRS);
            System.arraycopy(other.wake, 0, wake, 0, MOST_GUESTS);
            System.arraycopy(other.from, 0, from, 0, MOST_GUESTS);
            System.arraycopy(other.till, 0, till, 0, MOST_GUESTS);
            System.arraycopy(other.cost, 0, cost, 0, MOST_GUESTS);
            chairs = other.chairs;
            guests = other.guests;
            goes = other.goes;
            unused = other.unused;
            price = other.price;
        }

        boolean read(Text text) {
            clear();
            for (int clauses = 0; clauses <= MOST_CLAUSES; clauses++) {
                if (text.peek() == Text.END) {
                    return true;
                }
                if (!readClause(text, clauses)) {
                    return false;
                }
            }
            return false;
        }

        private boolean readClause(Text text, int clauses) {
            int word = text.which(WORDS);
            if (word == NONE) {
                return text.fail(CANNOT_STAND, text.at);
            }
            boolean full = word == 0 && chairs == MOST_CHAIRS || word == 1 && guests == MOST_GUESTS;
            if (full || clauses == MOST_CLAUSES) {
                return text.fail(TOO_MANY, text.at);
            }
            text.passWord();
            return readNumbers(text, word) && text.takeSign(';');
        }

        private boolean readNumbers(Text text, int word) {
            switch (word) {
                case 0:
                    return readChair(text);
                case 1:
                    return readGuest(text);
                case 2:
                    goes = text.number(0, 23);
                    return goes != NONE;
                case 3:
                    unused = text.number(1, 23);
                    return unused != NONE;
                default:
                    price = text.number(0, 99);
                    return price != NONE;
            }
        }

        private boolean readChair(Text text) {
            int a = text.number(0, 9);
            int b = a == NONE ? NONE : text.number(0, 9);
            if (b == NONE || chairs >= MOST_CHAIRS) {
                return false;
            }
            ahead[chairs] = a;
            behind[chairs] = b;
            chairs++;
            return true;
        }

        private boolean readGuest(Text text) {
            int u = text.number(0, LAST_HALF);
            int f = u == NONE ? NONE : text.number(0, LAST_HALF - 1);
            int t = f == NONE ? NONE : text.number(f + 1, LAST_HALF);
            int c = t == NONE ? NONE : text.number(0, 9);
            if (c == NONE || guests >= MOST_GUESTS) {
                return false;
            }
            wake[guests] = u;
            from[guests] = f;
            till[guests] = t;
            cost[guests] = c;
            guests++;
            return true;
        }

        void tellWaking(int[] halves) {
            System.arraycopy(wake, 0, halves, 0, MOST_GUESTS);
        }

        boolean goesBy(int half) {
            return goes > 0 && half > 0 && half % goes == 0;
        }

        /** WORTH of a CHAIR to a GUEST from a HALF on. */
        int value(int guest, int chair, int half) {
            int start = half < from[guest] ? from[guest] : half;
            return stretch(ahead[chair], behind[chair], start, till[guest]);
        }

        /** The worths of HALVES from start to end less 1, a ahead of noon and b behind it. */
        static int stretch(int a, int b, int start, int end) {
            int sum = 0;
            if (start < NOON && start < end) {
                sum += a * ((end < NOON ? end : NOON) - start);
            }
            if (end > NOON && start < end) {
                sum += b * (end - (start > NOON ? start : NOON));
            }
            return sum;
        }
    }

    /** Turns a HABIT's text into steps: numbers, names, and signs that join what stands ahead of them. */
    private static final class HabitReader {
        private static final String WORDS =
            "mine first last got lain off day wish wake chairs guests least most if";
        private static final int LEAST_WORD = 11;
        private static final int MOST_WORD = 12;
        private static final int IF_WORD = 13;

        // Every step comes from at least one byte of its own.
        final int[] steps = new int[SHORT_TEXT];
        int size;
        boolean asksDay;
        private final Text text;

        HabitReader(Text text) {
            this.text = text;
        }

        boolean read() {
            size = 0;
            asksDay = false;
            if (!readSum(0)) {
                return false;
            }
            return text.peek() == Text.END || text.fail(CANNOT_STAND, text.at);
        }

        private boolean readSum(int open) {
            boolean isRead = readProduct(open);
            for (int joined = 0; isRead && joined < SHORT_TEXT; joined++) {
                int sign = text.peek();
                if (sign != '+' && sign != '-') {
                    return true;
                }
                text.at++;
                isRead = readProduct(open);
                put(sign == '+' ? Habits.PLUS : Habits.MINUS);
            }
            return isRead;
        }

        private boolean readProduct(int open) {
            boolean isRead = readUnit(open);
            for (int joined = 0; isRead && joined < SHORT_TEXT; joined++) {
                int sign = text.peek();
                if (sign != '*' && sign != '/' && sign != '%') {
                    return true;
                }
                text.at++;
                isRead = readUnit(open);
                put(sign == '*' ? Habits.TIMES : sign == '/' ? Habits.CUT : Habits.LEFT);
            }
            return isRead;
        }

        private boolean readUnit(int open) {
            int sign = text.peek();
            if (Text.isDigit(sign)) {
                int value = text.number(0, 99);
                put(value);
                return value != NONE;
            }
            if (sign == '(') {
                return mayOpen(open) && text.takeSign('(') && readSum(open + 1) && text.takeSign(')');
            }
            int word = text.which(WORDS);
            if (word == NONE) {
                return text.fail(CANNOT_STAND, text.at);
            }
            if (word >= Habits.NAME_COUNT && !mayOpen(open)) {
                return false;
            }
            text.passWord();
            if (word == LEAST_WORD || word == MOST_WORD) {
                return readPair(word == LEAST_WORD ? Habits.LEAST : Habits.MOST, open + 1);
            }
            if (word == IF_WORD) {
                return readChoice(open + 1);
            }
            asksDay |= word == Habits.DAY;
            put(Habits.NAMES + word);
            return true;
        }

        private boolean mayOpen(int open) {
            return open < MOST_OPEN || text.fail(TOO_MANY, text.at);
        }

        private boolean readPair(int step, int open) {
            if (!text.takeSign('[') || !readSum(open) || !text.takeSign(',')
                    || !readSum(open) || !text.takeSign(']')) {
                return false;
            }
            put(step);
            return true;
        }

        private boolean readChoice(int open) {
            if (!readSum(open)) {
                return false;
            }
            int sign = text.peek();
            if (sign != '<' && sign != '>' && sign != '=') {
                return text.fail(CANNOT_STAND, text.at);
            }
            text.at++;
            if (!readSum(open)) {
                return false;
            }
            put(sign == '<' ? Habits.BELOW : sign == '>' ? Habits.ABOVE : Habits.EQUAL);
            if (!text.takeWord("then") || !readSum(open) || !text.takeWord("else") || !readSum(open)) {
                return false;
            }
            put(Habits.CHOOSE);
            return true;
        }

        private void put(int step) {
            if (size < steps.length) {
                steps[size] = step;
                size++;
            }
        }
    }

    /** The HABITS of all GUESTS, as steps that a stack goes through. */
    private static final class Habits {
        static final int NAMES = 100;
        static final int NAME_COUNT = 11;
        static final int MINE = 0;
        static final int FIRST = 1;
        static final int LAST = 2;
        static final int HAD = 3;
        static final int LAIN = 4;
        static final int WAS_OFF = 5;
        static final int DAY = 6;
        static final int WISH = 7;
        static final int WAKE = 8;
        static final int CHAIRS = 9;
        static final int GUESTS = 10;

        static final int PLUS = 200;
        static final int MINUS = 201;
        static final int TIMES = 202;
        static final int CUT = 203;
        static final int LEFT = 204;
        static final int LEAST = 205;
        static final int MOST = 206;
        static final int BELOW = 207;
        static final int ABOVE = 208;
        static final int EQUAL = 209;
        static final int CHOOSE = 210;

        // Six open ones keep at most four values each below the three of the innermost.
        private static final int MOST_KEPT = 40;

        final int[] steps = new int[MOST_GUESTS * SHORT_TEXT];
        final int[] sizes = new int[MOST_GUESTS];
        final int[] known = new int[NAME_COUNT];
        final int[] stack = new int[MOST_KEPT];
        int top;
        int askers;

        void clear() {
            askers = 0;
            for (int g = 0; g < MOST_GUESTS; g++) {
                steps[g * SHORT_TEXT] = NAMES + WAKE;
                sizes[g] = 1;
            }
        }

        void keep(int guest, HabitReader reader) {
            System.arraycopy(reader.steps, 0, steps, guest * SHORT_TEXT, reader.size);
            sizes[guest] = reader.size;
            askers = reader.asksDay ? askers | 1 << guest : askers & ~(1 << guest);
        }

        void setCommon(Pool pool, int first, int last, int day) {
            known[FIRST] = first;
            known[LAST] = last;
            known[DAY] = day;
            known[CHAIRS] = pool.chairs;
            known[GUESTS] = pool.guests;
        }

        void setOwn(int mine, int had, int lain, int wasOff) {
            known[MINE] = mine;
            known[HAD] = had;
            known[LAIN] = lain;
            known[WAS_OFF] = wasOff;
        }

        void setGuest(Pool pool, int guest) {
            known[WISH] = pool.from[guest];
            known[WAKE] = pool.wake[guest];
        }

        /** In which HALVES all come on a DAY, by what was on the one ahead and by HABITS of these owners. */
        void nextMorning(Course past, int[] owners, int day, int[] halves) {
            setCommon(past.pool, past.firstCame(), past.lastSeated, day);
            for (int g = 0; g < past.pool.guests; g++) {
                int at = g * FACTS;
                int had = past.facts[at + TOOK] > 0 ? 1 : 0;
                int wasOff = past.facts[at + OFFS] > 0 ? 1 : 0;
                setOwn(past.facts[at + CAME], had, past.facts[at + LAY], wasOff);
                setGuest(past.pool, g);
                halves[g] = comes(owners[g]);
            }
        }

        /** The HALF that an owner's HABIT tells by what is known. */
        int comes(int owner) {
            top = 0;
            int start = owner * SHORT_TEXT;
            for (int i = 0; i < sizes[owner]; i++) {
                take(steps[start + i]);
            }
            int told = pop();
            return told < 0 ? 0 : told > LAST_HALF ? LAST_HALF : told;
        }

        private void take(int step) {
            if (step < NAMES) {
                push(step);
            } else if (step < PLUS) {
                push(known[step - NAMES]);
            } else {
                int right = pop();
                int left = pop();
                if (step == CHOOSE) {
                    push(pop() != 0 ? left : right);
                } else {
                    push(join(step, left, right));
                }
            }
        }

        private static int join(int step, int left, int right) {
            switch (step) {
                case PLUS:
                    return left + right;
                case MINUS:
                    return left - right;
                case TIMES:
                    return left * right;
                case CUT:
                    return right == 0 ? 0 : left / right;
                case LEFT:
                    return right == 0 ? 0 : left % right;
                case LEAST:
                    return left < right ? left : right;
                case MOST:
                    return left > right ? left : right;
                case BELOW:
                    return left < right ? 1 : 0;
                case ABOVE:
                    return left > right ? 1 : 0;
                default:
                    return left == right ? 1 : 0;
            }
        }

        private void push(int value) {
            if (top < stack.length) {
                stack[top] = value;
                top++;
            }
        }

        private int pop() {
            if (top == 0) {
                return 0;
            }
            top--;
            return stack[top];
        }
    }

    /** The BOOK of mornings seen. */
    private static final class Book {
        private static final int WIDTH = 3;

        private final int[] kept = new int[MOST_LINES * WIDTH];
        private final int[] fresh = new int[MOST_LINES * WIDTH];
        int size;

        void clear() {
            size = 0;
        }

        boolean read(Text text, int guests) {
            for (int lines = 0; lines <= MOST_LINES; lines++) {
                if (text.peek() == Text.END) {
                    System.arraycopy(fresh, 0, kept, 0, lines * WIDTH);
                    size = lines;
                    return true;
                }
                if (!readLine(text, guests, lines)) {
                    return false;
                }
            }
            return false;
        }

        private boolean readLine(Text text, int guests, int lines) {
            int start = text.at;
            int day = text.number(0, 60);
            if (day == NONE) {
                return false;
            }
            if (lines >= MOST_LINES) {
                return text.fail(TOO_MANY, start);
            }
            int guest = text.number(0, guests - 1);
            int half = guest == NONE ? NONE : text.number(0, LAST_HALF);
            if (half == NONE) {
                return false;
            }
            fresh[lines * WIDTH] = day;
            fresh[lines * WIDTH + 1] = guest;
            fresh[lines * WIDTH + 2] = half;
            return text.takeSign(';');
        }

        /** The first line about a GUEST (NONE: about any) that is not so; as many as there are, if all are. */
        int firstNotSo(int guest, Days days) {
            for (int line = 0; line < size; line++) {
                int day = kept[line * WIDTH];
                int who = kept[line * WIDTH + 1];
                if (guest == NONE || guest == who) {
                    days.reach(day);
                    if (days.halfOf(day, who) != kept[line * WIDTH + 2]) {
                        return line;
                    }
                }
            }
            return size;
        }
    }

    /** A DAY gone through. Nothing changes but in HALVES in which one comes, leaves, begins to wait,
     *  or the hotel goes by; so what lasts longer is reckoned as it ends. */
    private static final class Course {
        final Pool pool;
        final int[] facts = new int[MOST_GUESTS * FACTS];
        final int[] chairFacts = new int[MOST_CHAIRS * CHAIR_FACTS];
        final int[] towels;
        final int[] waiting;
        private final int[] chairOf = new int[MOST_GUESTS];
        private final int[] tookIn = new int[MOST_GUESTS];
        private final int[] waitsFrom = new int[MOST_GUESTS];
        private final int[] order = new int[MOST_GUESTS];
        private final int[] queue = new int[MOST_GUESTS];
        private final boolean paints;
        private int queued;
        private int free;
        private int busy;
        int lastSeated;

        Course(Pool pool, boolean paints) {
            this.pool = pool;
            this.paints = paints;
            towels = new int[paints ? MOST_CHAIRS * HALVES : 0];
            waiting = new int[paints ? HALVES : 0];
            goByNumber();
        }

        void goByNumber() {
            for (int g = 0; g < MOST_GUESTS; g++) {
                order[g] = g;
            }
        }

        /** Draws the order by a LOT; the SEED as it is then. */
        int goByLot(int seed) {
            goByNumber();
            int next = seed;
            for (int i = pool.guests - 1; i >= 1; i--) {
                next = next * 1103515245 + 12345;
                int j = (next >>> 16 & 0x7fff) % (i + 1);
                int other = order[j];
                order[j] = order[i];
                order[i] = other;
            }
            return next;
        }

        void run(int[] halves, int unused) {
            clear(halves);
            for (int half = 0; half < HALVES; half++) {
                if ((busy >> half & 1) != 0) {
                    leave(half);
                    if (pool.goesBy(half)) {
                        takeOff(half, unused);
                    }
                    arrive(half);
                    seatWaiting(half);
                }
            }
            reckonNet();
        }

        private void clear(int[] halves) {
            for (int i = 0; i < chairFacts.length; i++) {
                chairFacts[i] = 0;
            }
            for (int i = 0; i < towels.length; i++) {
                towels[i] = NONE;
            }
            for (int i = 0; i < waiting.length; i++) {
                waiting[i] = 0;
            }
            queued = 0;
            free = (1 << pool.chairs) - 1;
            lastSeated = LAST_HALF;
            busy = 0;
            int step = pool.goes;
            for (int half = step; step > 0 && half < HALVES; half += step) {
                busy |= 1 << half;
            }
            for (int g = 0; g < pool.guests; g++) {
                clearGuest(g, halves[g]);
            }
        }

        private void clearGuest(int guest, int half) {
            for (int i = 0; i < FACTS; i++) {
                facts[guest * FACTS + i] = 0;
            }
            facts[guest * FACTS + CAME] = half;
            facts[guest * FACTS + FIRST_CHAIR] = NONE;
            chairOf[guest] = NONE;
            tookIn[guest] = NONE;
            waitsFrom[guest] = NONE;
            busy |= 1 << half | 1 << pool.till[guest];
        }

        private void leave(int half) {
            for (int g = 0; g < pool.guests; g++) {
                if (pool.till[g] == half) {
                    if (chairOf[g] != NONE) {
                        giveUp(g, half);
                    } else if (waitsFrom[g] != NONE) {
                        unqueue(g);
                        endWaiting(g, half);
                    }
                }
            }
        }

        private void takeOff(int half, int unused) {
            for (int g = 0; g < pool.guests; g++) {
                // Behind F he has lain in the HALF ahead, so his towel is never unused.
                if (chairOf[g] != NONE && half <= pool.from[g] && half - tookIn[g] >= unused) {
                    facts[g * FACTS + OFFS]++;
                    giveUp(g, half);
                    waitsFrom[g] = pool.from[g];
                    busy |= 1 << pool.from[g];
                }
            }
        }

        private void arrive(int half) {
            for (int i = 0; i < pool.guests; i++) {
                int g = order[i];
                if (facts[g * FACTS + CAME] == half && half < pool.till[g]) {
                    if (free != 0) {
                        takeBest(g, half);
                        lastSeated = half;
                    } else {
                        waitsFrom[g] = half;
                    }
                }
            }
        }

        private void seatWaiting(int half) {
            for (int i = 0; i < pool.guests; i++) {
                if (waitsFrom[order[i]] == half && queued < MOST_GUESTS) {
                    queue[queued] = order[i];
                    queued++;
                }
            }
            for (int left = queued; left > 0 && free != 0; left--) {
                int g = queue[0];
                unqueue(g);
                endWaiting(g, half);
                takeBest(g, half);
            }
        }

        private void unqueue(int guest) {
            int kept = 0;
            for (int i = 0; i < queued; i++) {
                if (queue[i] != guest) {
                    queue[kept] = queue[i];
                    kept++;
                }
            }
            queued = kept;
        }

        private void endWaiting(int guest, int half) {
            facts[guest * FACTS + WAITED] += half - waitsFrom[guest];
            if (paints) {
                for (int h = waitsFrom[guest]; h < half; h++) {
                    waiting[h] |= 1 << guest;
                }
            }
            waitsFrom[guest] = NONE;
        }

        private void takeBest(int guest, int half) {
            int best = NONE;
            int most = NONE;
            int start = half < pool.from[guest] ? pool.from[guest] : half;
            for (int c = 0; c < pool.chairs; c++) {
                if ((free >> c & 1) != 0) {
                    int value = Pool.stretch(pool.ahead[c], pool.behind[c], start, pool.till[guest]);
                    if (value > most) {
                        most = value;
                        best = c;
                    }
                }
            }
            if (best == NONE) {
                return;
            }
            free &= ~(1 << best);
            chairOf[guest] = best;
            tookIn[guest] = half;
            chairFacts[best * CHAIR_FACTS + TAKEN]++;
            if (facts[guest * FACTS + TOOK] == 0) {
                facts[guest * FACTS + FIRST_CHAIR] = best;
            }
            facts[guest * FACTS + TOOK]++;
        }

        /** His CHAIR is free from this HALF on: what he had of it till then is reckoned. */
        private void giveUp(int guest, int half) {
            int chair = chairOf[guest];
            int start = tookIn[guest];
            int lying = start < pool.from[guest] ? pool.from[guest] : start;
            int lain = half > lying ? half - lying : 0;
            facts[guest * FACTS + LAY] += lain;
            facts[guest * FACTS + GOT] += Pool.stretch(pool.ahead[chair], pool.behind[chair], lying, half);
            chairFacts[chair * CHAIR_FACTS + LAIN_ON] += lain;
            chairFacts[chair * CHAIR_FACTS + IDLE] += half - start - lain;
            if (paints) {
                for (int h = start; h < half; h++) {
                    towels[chair * HALVES + h] = guest;
                }
            }
            free |= 1 << chair;
            chairOf[guest] = NONE;
        }

        private void reckonNet() {
            for (int g = 0; g < pool.guests; g++) {
                int at = g * FACTS;
                facts[at + NET] = facts[at + GOT] - pool.cost[g] * sleepLostBy(g) - pool.price * facts[at + TOOK];
            }
        }

        private int sleepLostBy(int guest) {
            int lost = pool.wake[guest] - facts[guest * FACTS + CAME];
            return lost > 0 ? lost : 0;
        }

        int sleepLost() {
            int sum = 0;
            for (int g = 0; g < pool.guests; g++) {
                sum += sleepLostBy(g);
            }
            return sum;
        }

        int total(int fact) {
            int sum = 0;
            for (int g = 0; g < pool.guests; g++) {
                sum += facts[g * FACTS + fact];
            }
            return sum;
        }

        int idle() {
            int sum = 0;
            for (int c = 0; c < pool.chairs; c++) {
                sum += chairFacts[c * CHAIR_FACTS + IDLE];
            }
            return sum;
        }

        /** GUESTS who had a CHAIR, as bits. */
        int seated() {
            int bits = 0;
            for (int g = 0; g < pool.guests; g++) {
                if (facts[g * FACTS + TOOK] > 0) {
                    bits |= 1 << g;
                }
            }
            return bits;
        }

        int firstCame() {
            int first = LAST_HALF;
            for (int g = 0; g < pool.guests; g++) {
                if (facts[g * FACTS + CAME] < first) {
                    first = facts[g * FACTS + CAME];
                }
            }
            return first;
        }
    }

    /** The DAYS from 0 on, as far as they were asked for, by HABITS told by whose they are. */
    private static final class Days {
        private static final int BITS = 5;

        final Pool pool;
        final Habits habits;
        final Course course;
        final int[] whose = new int[MOST_GUESTS];
        private final int[] halves = new int[MOST_GUESTS];
        private final long[] mornings = new long[MOST_DAYS];
        private final int[] seated = new int[MOST_DAYS];
        private int reached;
        int roundFrom;
        int roundDays;

        Days(Pool pool, Habits habits) {
            this.pool = pool;
            this.habits = habits;
            course = new Course(pool, false);
            for (int g = 0; g < MOST_GUESTS; g++) {
                whose[g] = g;
            }
        }

        void forget() {
            reached = 0;
            roundFrom = NONE;
            roundDays = 0;
        }

        void reach(int day) {
            for (int d = reached; d <= day && d < MOST_DAYS; d++) {
                if (roundDays > 0) {
                    mornings[d] = mornings[d - roundDays];
                    seated[d] = seated[d - roundDays];
                } else {
                    if (d == 0) {
                        pool.tellWaking(halves);
                    } else {
                        habits.nextMorning(course, whose, d, halves);
                    }
                    course.run(halves, pool.unused);
                    mornings[d] = packed();
                    seated[d] = course.seated();
                    seekRound(d);
                }
                reached = d + 1;
            }
        }

        private long packed() {
            long all = 0;
            for (int g = 0; g < pool.guests; g++) {
                all |= (long) halves[g] << g * BITS;
            }
            return all;
        }

        /** When all come tells all else of a DAY, so DAYS are alike if that is. */
        private void seekRound(int day) {
            if (asksDay()) {
                return;
            }
            for (int d = 0; d < day; d++) {
                if (mornings[d] == mornings[day]) {
                    roundFrom = d;
                    roundDays = day - d;
                    return;
                }
            }
        }

        private boolean asksDay() {
            for (int g = 0; g < pool.guests; g++) {
                if ((habits.askers >> whose[g] & 1) != 0) {
                    return true;
                }
            }
            return false;
        }

        int halfOf(int day, int guest) {
            return (int) (mornings[day] >>> guest * BITS) & 31;
        }

        void tell(int day, int[] into) {
            for (int g = 0; g < pool.guests; g++) {
                into[g] = halfOf(day, g);
            }
        }

        boolean wasSeated(int day, int guest) {
            return (seated[day] >> guest & 1) != 0;
        }
    }

    /** Mornings at which nobody would have more NET by coming in another HALF alone. */
    private static final class Stillness {
        // The others' HALVES: at most three GUESTS with eight each.
        private static final int OTHERS = 512;

        private final Pool pool;
        private final Course course;
        private final int[] best = new int[STILL_GUESTS * OTHERS];
        private final int[] bestIn = new int[STILL_GUESTS * OTHERS];
        private final int[] halves = new int[MOST_GUESTS];
        private int foundFor;
        int mornings;
        int first;

        Stillness(Pool pool, Course course) {
            this.pool = pool;
            this.course = course;
        }

        void forget() {
            foundFor = 0;
        }

        void find(int n) {
            if (foundFor == n) {
                return;
            }
            for (int i = 0; i < bestIn.length; i++) {
                bestIn[i] = 0;
            }
            int all = 1;
            for (int g = 0; g < pool.guests; g++) {
                all *= n;
            }
            course.goByNumber();
            for (int morning = 0; morning < all; morning++) {
                weigh(morning, n);
            }
            mornings = 0;
            first = NONE;
            for (int morning = 0; morning < all; morning++) {
                if (isStill(morning, n)) {
                    mornings++;
                    first = first == NONE ? digits() : first;
                }
            }
            foundFor = n;
        }

        /** Keeps, for each GUEST and the others as they are, his most NET and the HALVES in which he has it. */
        private void weigh(int morning, int n) {
            setHalves(morning, n);
            course.run(halves, pool.unused);
            int step = 1;
            for (int g = pool.guests - 1; g >= 0; g--) {
                int at = place(g, morning, step, n);
                int net = course.facts[g * FACTS + NET];
                if (bestIn[at] == 0 || net > best[at]) {
                    best[at] = net;
                    bestIn[at] = 1 << halves[g];
                } else if (net == best[at]) {
                    bestIn[at] |= 1 << halves[g];
                }
                step *= n;
            }
        }

        private boolean isStill(int morning, int n) {
            setHalves(morning, n);
            int step = 1;
            for (int g = pool.guests - 1; g >= 0; g--) {
                if ((bestIn[place(g, morning, step, n)] >> halves[g] & 1) == 0) {
                    return false;
                }
                step *= n;
            }
            return true;
        }

        private void setHalves(int morning, int n) {
            int rest = morning;
            for (int g = pool.guests - 1; g >= 0; g--) {
                halves[g] = rest % n;
                rest /= n;
            }
        }

        private static int place(int guest, int morning, int step, int n) {
            return guest * OTHERS + morning / (step * n) * step + morning % step;
        }

        private int digits() {
            int number = 0;
            for (int g = 0; g < pool.guests; g++) {
                number = number * 10 + halves[g];
            }
            return number;
        }
    }

    /** CHAIRS GIVEN as they are worth most; it hangs on CHAIRS and on when GUESTS lie alone. */
    private static final class Giving {
        private static final int SETS = 1 << MOST_CHAIRS;
        private static final int WIDTH = MOST_CHAIRS + 1;

        private final Pool pool;
        private final int[] values = new int[MOST_GUESTS * WIDTH];
        // The most WORTH that GUESTS from one on can have, by the CHAIRS that are gone.
        private final int[] table = new int[(MOST_GUESTS + 1) * SETS];
        final int[] gifts = new int[MOST_GUESTS];
        private boolean learned;
        int most;

        Giving(Pool pool) {
            this.pool = pool;
        }

        void forget() {
            learned = false;
        }

        void learn() {
            if (learned) {
                return;
            }
            for (int g = 0; g < pool.guests; g++) {
                for (int c = 0; c < pool.chairs; c++) {
                    values[g * WIDTH + c] = pool.value(g, c, 0);
                }
            }
            int sets = 1 << pool.chairs;
            for (int gone = 0; gone < sets; gone++) {
                table[pool.guests * SETS + gone] = 0;
            }
            for (int g = pool.guests - 1; g >= 0; g--) {
                for (int gone = 0; gone < sets; gone++) {
                    table[g * SETS + gone] = bestFrom(g, gone, (g + 1) * SETS, pool.chairs);
                }
            }
            most = table[0];
            deal();
            learned = true;
        }

        /** The most of what a GUEST and those behind him, whose row begins at next, can have. */
        private int bestFrom(int guest, int gone, int next, int chairs) {
            int best = table[next + gone];
            for (int c = 0; c < chairs; c++) {
                if ((gone >> c & 1) == 0) {
                    int with = values[guest * WIDTH + c] + table[next + (gone | 1 << c)];
                    best = with > best ? with : best;
                }
            }
            return best;
        }

        private void deal() {
            int gone = 0;
            for (int g = 0; g < pool.guests; g++) {
                gifts[g] = firstGift(g, gone);
                if (gifts[g] != NONE) {
                    gone |= 1 << gifts[g];
                }
            }
        }

        private int firstGift(int guest, int gone) {
            int due = table[guest * SETS + gone];
            int next = (guest + 1) * SETS;
            if (table[next + gone] == due) {
                return NONE;
            }
            for (int c = 0; c < pool.chairs; c++) {
                if ((gone >> c & 1) == 0
                        && values[guest * WIDTH + c] + table[next + (gone | 1 << c)] == due) {
                    return c;
                }
            }
            return NONE;
        }

        /** The most WORTH with one CHAIR more. */
        int mostWith(int a, int b) {
            int chairs = pool.chairs + 1;
            int sets = 1 << chairs;
            for (int gone = 0; gone < sets; gone++) {
                table[gone] = 0;
            }
            for (int g = pool.guests - 1; g >= 0; g--) {
                values[g * WIDTH + pool.chairs] = Pool.stretch(a, b, pool.from[g], pool.till[g]);
                // From the fewest gone on, since each looks only at sets with more.
                for (int gone = 0; gone < sets; gone++) {
                    table[gone] = bestFrom(g, gone, 0, chairs);
                }
            }
            return table[0];
        }

        /** GUESTS to whom the best CHAIR is worth no less than a price. */
        int takersAt(int price) {
            int takers = 0;
            for (int g = 0; g < pool.guests; g++) {
                if (bestOf(g) >= price) {
                    takers++;
                }
            }
            return takers;
        }

        private int bestOf(int guest) {
            int best = NONE;
            for (int c = 0; c < pool.chairs; c++) {
                if (values[guest * WIDTH + c] > best) {
                    best = values[guest * WIDTH + c];
                }
            }
            return best;
        }
    }

    /** The changes that can be undone, with what was ahead of each, and the IMAGES. */
    private static final class Changes {
        static final int HOTEL = 0;
        static final int HIRE = 1;
        static final int WAKES = 2;
        private static final int WIDTH = 3;

        final int[] rows = new int[MOST_CHANGES * WIDTH];
        private final Image[] images = new Image[MOST_IMAGES];
        int size;
        int imageCount;

        void clear() {
            size = 0;
            imageCount = 0;
        }

        boolean add(int kind, int a, int b) {
            if (size >= MOST_CHANGES) {
                return false;
            }
            rows[size * WIDTH] = kind;
            rows[size * WIDTH + 1] = a;
            rows[size * WIDTH + 2] = b;
            size++;
            return true;
        }

        void takeBack(Pool pool) {
            if (size == 0) {
                return;
            }
            size--;
            int a = rows[size * WIDTH + 1];
            int b = rows[size * WIDTH + 2];
            switch (rows[size * WIDTH]) {
                case HOTEL:
                    pool.goes = a;
                    pool.unused = b;
                    break;
                case HIRE:
                    pool.price = a;
                    break;
                default:
                    pool.wake[a] = b;
                    break;
            }
        }

        boolean keepImage(Pool pool, int day) {
            if (imageCount >= MOST_IMAGES) {
                return false;
            }
            // Made once for each place, then used again.
            if (images[imageCount] == null) {
                images[imageCount] = new Image();
            }
            images[imageCount].keep(pool, this, day);
            imageCount++;
            return true;
        }

        /** The latest IMAGE, which is gone then; null: there is none. */
        Image takeImage() {
            if (imageCount == 0) {
                return null;
            }
            imageCount--;
            return images[imageCount];
        }
    }

    /** An IMAGE. */
    private static final class Image {
        private final int[] wake = new int[MOST_GUESTS];
        private final int[] rows = new int[MOST_CHANGES * Changes.WIDTH];
        private int size;
        private int goes;
        private int unused;
        private int price;
        int theDay;

        void keep(Pool pool, Changes changes, int day) {
            System.arraycopy(pool.wake, 0, wake, 0, wake.length);
            System.arraycopy(changes.rows, 0, rows, 0, rows.length);
            size = changes.size;
            goes = pool.goes;
            unused = pool.unused;
            price = pool.price;
            theDay = day;
        }

        void giveBack(Pool pool, Changes changes) {
            System.arraycopy(wake, 0, pool.wake, 0, wake.length);
            System.arraycopy(rows, 0, changes.rows, 0, rows.length);
            changes.size = size;
            pool.goes = goes;
            pool.unused = unused;
            pool.price = price;
        }
    }
}
