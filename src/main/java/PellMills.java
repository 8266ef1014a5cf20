import java.util.Arrays;
import java.util.NoSuchElementException;

/**
 * A mill of stones for square roots: the terms of roots, their periods and units,
 * stones that are milled power by power, and the solutions of all stones in order.
 */
public final class PellMills {
    private static final int LEAST_NUMBER = 2;
    private static final int GREATEST_NUMBER = 60;
    private static final int GREATEST_TERM = 99;
    private static final int MOST_STONES = 8;
    private static final int MOST_STATES = 4;
    private static final int LONGEST_TEXT = 60;
    private static final int FIRST_CHARACTER = 32;
    private static final int LAST_CHARACTER = 126;
    private static final long GREATEST_X = 1000000000000000L;
    private static final int REMAINDERS_OF = 1000003;

    // Stands far above what any loop without a bound of the document needs.
    private static final int FAR_BOUND = 1000000;

    // No stone has more powers than 2, whose x grows slowest: 39 of them are not above the greatest x.
    private static final int MOST_SOLUTIONS = 39 * MOST_STONES;

    private static final char LAY = 'l';
    private static final char TAKE = 't';
    private static final char MILL = 'm';
    private static final char MILL_BACK = 'b';
    private static final char END_OF_ORDER = ';';

    private static final int NO_FAULT = 0;
    private static final int FAULT_OF_FORM = 1;
    private static final int FAULT_OF_DOING = 2;

    private static final int POSSIBLE = 0;
    private static final int BY_ARGUMENT = 1;
    private static final int BY_STATE = 2;

    private final Roots roots;
    private final Power power;
    private final Queue queue;
    private final PowerSet powerSet;
    private final State now;
    private final State trial;
    private final State snapshot;
    private final History history;
    private final Text text;
    private boolean hasSnapshot;

    public PellMills() {
        roots = new Roots();
        power = new Power();
        queue = new Queue(roots);
        powerSet = new PowerSet(roots);
        now = new State(roots);
        trial = new State(roots);
        snapshot = new State(roots);
        history = new History(roots);
        text = new Text();
    }

    // ---- changes

    public int lay(int number) throws IllegalArgumentException, IllegalStateException {
        change(LAY, number);
        return now.laid;
    }

    public int take(int number) throws IllegalArgumentException, IllegalStateException {
        int stood = now.heightOf(number);
        change(TAKE, number);
        return stood;
    }

    public long mill(int number) throws IllegalArgumentException, IllegalStateException {
        change(MILL, number);
        return powerOfLaid(number).x;
    }

    public long millBack(int number) throws IllegalArgumentException, IllegalStateException {
        change(MILL_BACK, number);
        return powerOfLaid(number).x;
    }

    // ---- roots

    public int whyNot(int number) throws IllegalArgumentException {
        requireNumber(number);
        return now.reasonAgainstLaying(number);
    }

    public int periodOf(int number) throws IllegalArgumentException, NoSuchElementException {
        requireRoot(number);
        return roots.period(number);
    }

    public int termAt(int number, int place) throws IllegalArgumentException, NoSuchElementException {
        if (place < 0 || place > GREATEST_TERM) {
            throw new IllegalArgumentException("the place is not from 0 to 99");
        }
        requireRoot(number);
        return roots.term(number, place);
    }

    public int unitX(int number) throws IllegalArgumentException, NoSuchElementException {
        requireRoot(number);
        return roots.xOfUnit(number);
    }

    public int unitY(int number) throws IllegalArgumentException, NoSuchElementException {
        requireRoot(number);
        return roots.yOfUnit(number);
    }

    public int leastY(int number) throws IllegalArgumentException, NoSuchElementException {
        requireRoot(number);
        int x = roots.xOfUnit(number);
        int y = roots.yOfUnit(number);
        return roots.signOfUnit(number) == 1 ? y : 2 * x * y;
    }

    public int leastYBySearch(int number) throws IllegalArgumentException, NoSuchElementException {
        requireRoot(number);
        return searchLeastY(number);
    }

    // ---- stones

    public int stones() {
        return now.laid;
    }

    public boolean isLaid(int number) throws IllegalArgumentException {
        requireNumber(number);
        return now.has(number);
    }

    public int stoneFrom(int number) throws IllegalArgumentException, NoSuchElementException {
        requireNumber(number);
        for (int other = number; other <= GREATEST_NUMBER; other++) {
            if (now.has(other)) {
                return other;
            }
        }
        throw new NoSuchElementException("no stone has this number or one above it");
    }

    public int powerOf(int number) throws IllegalArgumentException, NoSuchElementException {
        requireLaid(number);
        return now.heightOf(number);
    }

    public long xOf(int number) throws IllegalArgumentException, NoSuchElementException {
        requireLaid(number);
        return powerOfLaid(number).x;
    }

    public long yOf(int number) throws IllegalArgumentException, NoSuchElementException {
        requireLaid(number);
        return powerOfLaid(number).y;
    }

    public int signOf(int number) throws IllegalArgumentException, NoSuchElementException {
        requireLaid(number);
        return now.sign(number);
    }

    public int signByRemainders(int number) throws IllegalArgumentException, NoSuchElementException {
        requireLaid(number);
        Power stood = powerOfLaid(number);
        long restOfX = stood.x % REMAINDERS_OF;
        long restOfY = stood.y % REMAINDERS_OF;
        long rest = Math.floorMod(restOfX * restOfX - number * restOfY * restOfY, (long) REMAINDERS_OF);
        return rest == 1 ? 1 : -1;
    }

    public float nearRoot(int number) throws IllegalArgumentException, NoSuchElementException {
        requireLaid(number);
        Power stood = powerOfLaid(number);
        if (stood.y == 0) {
            throw new NoSuchElementException("the stone stands at the power 0");
        }
        return (float) stood.x / (float) stood.y;
    }

    // ---- solutions in order

    public int solutions() {
        return countUpTo(GREATEST_X);
    }

    public long xAt(int place) throws IllegalArgumentException, NoSuchElementException {
        return solutionByQueue(place).x;
    }

    public long xAtBySet(int place) throws IllegalArgumentException, NoSuchElementException {
        if (place < 0) {
            throw new IllegalArgumentException("the place is below 0");
        }
        powerSet.fill(now);
        if (place >= powerSet.size) {
            throw new NoSuchElementException("there are not so many solutions");
        }
        return powerSet.x(place);
    }

    public int stoneAt(int place) throws IllegalArgumentException, NoSuchElementException {
        return solutionByQueue(place).number;
    }

    public int solutionsUpTo(long bound) throws IllegalArgumentException {
        if (bound < 0 || bound > GREATEST_X) {
            throw new IllegalArgumentException("the bound is not from 0 to 1000000000000000");
        }
        return countUpTo(bound);
    }

    // ---- accounts, the snapshot

    public int milled() {
        return now.millings;
    }

    public int minusStones() {
        int minus = 0;
        for (int number = LEAST_NUMBER; number <= GREATEST_NUMBER; number++) {
            if (now.has(number) && now.sign(number) == -1) {
                minus++;
            }
        }
        return minus;
    }

    public int keep() {
        snapshot.copyFrom(now);
        hasSnapshot = true;
        return now.laid;
    }

    public int goBack() throws IllegalStateException {
        if (!hasSnapshot) {
            throw new IllegalStateException("there is no snapshot");
        }
        history.record(now);
        now.copyFrom(snapshot);
        return now.laid;
    }

    // ---- history, texts

    public int states() {
        return history.size;
    }

    public int undo() throws IllegalStateException {
        if (!history.restoreLatest(now)) {
            throw new IllegalStateException("the history is empty");
        }
        return history.size;
    }

    public int type(int character) throws IllegalArgumentException, IllegalStateException {
        if (character < FIRST_CHARACTER || character > LAST_CHARACTER) {
            throw new IllegalArgumentException("the character is not from 32 to 126");
        }
        if (!text.append((char) character)) {
            throw new IllegalStateException("the text has 60 characters");
        }
        return text.length;
    }

    public int clearText() {
        int length = text.length;
        text.length = 0;
        return length;
    }

    public int faultPosition() throws NoSuchElementException {
        requireFault();
        return text.position;
    }

    public int faultReason() throws NoSuchElementException {
        requireFault();
        return text.reason;
    }

    public int faultCause() throws NoSuchElementException {
        requireFault();
        return text.cause;
    }

    public int play() throws IllegalStateException {
        if (text.findsFault(now, trial)) {
            throw new IllegalStateException("the text has a fault");
        }
        history.record(now);
        now.copyFrom(trial);
        return text.orders;
    }

    // ---- what the calls share

    private static boolean isNumber(int number) {
        return number >= LEAST_NUMBER && number <= GREATEST_NUMBER;
    }

    private static void requireNumber(int number) {
        if (!isNumber(number)) {
            throw new IllegalArgumentException("the number is not from 2 to 60");
        }
    }

    private void requireRoot(int number) {
        requireNumber(number);
        if (roots.isSquare(number)) {
            throw new NoSuchElementException("the number is a square");
        }
    }

    private void requireLaid(int number) {
        requireNumber(number);
        if (!now.has(number)) {
            throw new NoSuchElementException("the stone is not laid");
        }
    }

    private void requireFault() {
        if (!text.findsFault(now, trial)) {
            throw new NoSuchElementException("the text has no fault");
        }
    }

    // Calls and texts go through the same test, so that the cause of a fault is what the call would throw.
    private void change(char order, int number) {
        int cause = now.causeAgainst(order, number);
        if (cause == BY_ARGUMENT) {
            throw new IllegalArgumentException("the number is not from 2 to 60");
        }
        if (cause != POSSIBLE) {
            throw new IllegalStateException("the stone does not allow it");
        }
        history.record(now);
        now.carryOut(order, number);
    }

    private Power powerOfLaid(int number) {
        int height = now.heightOf(number);
        roots.begin(power, number);
        for (int passed = 0; passed < height && passed < FAR_BOUND; passed++) {
            power.climb();
        }
        return power;
    }

    private Power solutionByQueue(int place) {
        if (place < 0) {
            throw new IllegalArgumentException("the place is below 0");
        }
        queue.fill(now);
        queue.pass(place);
        Power solution = queue.first();
        if (solution == null) {
            throw new NoSuchElementException("there are not so many solutions");
        }
        return solution;
    }

    private int countUpTo(long bound) {
        int count = 0;
        for (int number = LEAST_NUMBER; number <= GREATEST_NUMBER; number++) {
            if (now.has(number)) {
                count += countPowersUpTo(number, bound);
            }
        }
        return count;
    }

    private int countPowersUpTo(int number, long bound) {
        roots.begin(power, number);
        for (int count = 0; count < FAR_BOUND; count++) {
            if (!power.climb() || power.x > bound) {
                return count;
            }
        }
        return FAR_BOUND;
    }

    // x follows the root of number * y * y, rounded down: from y to y that grows by whole, or 1 more.
    private static int searchLeastY(int number) {
        int whole = wholeRoot(number);
        long x = whole;
        for (int y = 1; y < FAR_BOUND; y++) {
            long wanted = (long) number * y * y + 1;
            if ((x + 1) * (x + 1) < wanted) {
                x++;
            }
            if ((x + 1) * (x + 1) == wanted) {
                return y;
            }
            x += whole;
        }
        return FAR_BOUND;
    }

    private static int wholeRoot(int number) {
        int root = 1;
        for (int next = 2; next <= GREATEST_NUMBER && next * next <= number; next++) {
            root = next;
        }
        return root;
    }

    /** Walks through the terms of the root of one number after the other. */
    private static final class Terms {
        int number;
        int whole;
        int m;
        int q;
        int term;

        void begin(int ofNumber) {
            number = ofNumber;
            whole = wholeRoot(ofNumber);
            m = 0;
            q = 1;
            term = whole;
        }

        void next() {
            if (q == 0) {
                return;
            }
            m = q * term - m;
            q = (number - m * m) / q;
            if (q != 0) {
                term = (whole + m) / q;
            }
        }

        boolean isSquare() {
            return whole * whole == number;
        }

        boolean endsPeriod() {
            return term == 2 * whole;
        }
    }

    /** What is the same in every state; a square has the period 0. */
    private static final class Roots {
        private final Terms terms = new Terms();
        private final int[] periods = new int[GREATEST_NUMBER + 1];
        private final int[] unitXs = new int[GREATEST_NUMBER + 1];
        private final int[] unitYs = new int[GREATEST_NUMBER + 1];
        private final int[] greatestPowers = new int[GREATEST_NUMBER + 1];

        Roots() {
            Power power = new Power();
            for (int number = LEAST_NUMBER; number <= GREATEST_NUMBER; number++) {
                terms.begin(number);
                if (!terms.isSquare()) {
                    findUnit(number);
                    findGreatestPower(number, power);
                }
            }
        }

        private void findUnit(int number) {
            int xBefore = 1;
            int yBefore = 0;
            int x = terms.term;
            int y = 1;
            for (int place = 1; place <= GREATEST_TERM; place++) {
                terms.next();
                if (terms.endsPeriod()) {
                    periods[number] = place;
                    unitXs[number] = x;
                    unitYs[number] = y;
                    return;
                }
                int nextX = terms.term * x + xBefore;
                int nextY = terms.term * y + yBefore;
                xBefore = x;
                yBefore = y;
                x = nextX;
                y = nextY;
            }
        }

        private void findGreatestPower(int number, Power power) {
            begin(power, number);
            for (int height = 1; height < FAR_BOUND && power.climb(); height++) {
                greatestPowers[number] = height;
            }
        }

        void begin(Power power, int number) {
            power.begin(number, xOfUnit(number), yOfUnit(number));
        }

        int term(int number, int place) {
            terms.begin(number);
            for (int passed = 0; passed < place && passed < GREATEST_TERM; passed++) {
                terms.next();
            }
            return terms.term;
        }

        boolean isSquare(int number) {
            return number >= 0 && number < periods.length && periods[number] == 0;
        }

        int period(int number) {
            return number >= 0 && number < periods.length ? periods[number] : 0;
        }

        int xOfUnit(int number) {
            return number >= 0 && number < unitXs.length ? unitXs[number] : 0;
        }

        int yOfUnit(int number) {
            return number >= 0 && number < unitYs.length ? unitYs[number] : 0;
        }

        int signOfUnit(int number) {
            return period(number) % 2 == 0 ? 1 : -1;
        }

        int greatestPower(int number) {
            return number >= 0 && number < greatestPowers.length ? greatestPowers[number] : 0;
        }
    }

    /** Climbs from power to power of a unit, as far as the document lets x grow. */
    private static final class Power {
        private int unitX;
        private int unitY;
        int number;
        long x;
        long y;

        void begin(int ofNumber, int xOfUnit, int yOfUnit) {
            number = ofNumber;
            unitX = xOfUnit;
            unitY = yOfUnit;
            x = 1;
            y = 0;
        }

        // The first test keeps the products within a long: number * y * unitY is near x * unitX.
        boolean climb() {
            if (unitX <= 0 || x > GREATEST_X / unitX) {
                return false;
            }
            long nextX = x * unitX + number * y * unitY;
            if (nextX > GREATEST_X) {
                return false;
            }
            y = x * unitY + y * unitX;
            x = nextX;
            return true;
        }

        boolean isAheadOf(Power other) {
            return x != other.x ? x < other.x : number < other.number;
        }
    }

    /** The next power of each stone waits here; the first one in order is passed and climbs. */
    private static final class Queue {
        private final Roots roots;
        private final Power[] waiting = new Power[MOST_STONES];
        private int size;

        Queue(Roots roots) {
            this.roots = roots;
            for (int index = 0; index < waiting.length; index++) {
                waiting[index] = new Power();
            }
        }

        void fill(State state) {
            size = 0;
            for (int number = LEAST_NUMBER; number <= GREATEST_NUMBER; number++) {
                if (state.has(number) && size < waiting.length) {
                    roots.begin(waiting[size], number);
                    if (waiting[size].climb()) {
                        size++;
                    }
                }
            }
        }

        void pass(int count) {
            for (int passed = 0; passed < count && passed < FAR_BOUND && size > 0; passed++) {
                passFirst();
            }
        }

        Power first() {
            return size > 0 ? waiting[firstIndex()] : null;
        }

        private void passFirst() {
            int index = firstIndex();
            Power first = waiting[index];
            if (!first.climb()) {
                size--;
                waiting[index] = waiting[size];
                waiting[size] = first;
            }
        }

        private int firstIndex() {
            int best = 0;
            for (int index = 1; index < size; index++) {
                if (waiting[index].isAheadOf(waiting[best])) {
                    best = index;
                }
            }
            return best;
        }
    }

    /** The x of all powers of all stones in order; those of two stones that are the same stay two. */
    private static final class PowerSet {
        private final Roots roots;
        private final Power power = new Power();
        private final long[] xs = new long[MOST_SOLUTIONS];
        int size;

        PowerSet(Roots roots) {
            this.roots = roots;
        }

        void fill(State state) {
            size = 0;
            for (int number = LEAST_NUMBER; number <= GREATEST_NUMBER; number++) {
                if (state.has(number)) {
                    addPowers(number);
                }
            }
        }

        long x(int place) {
            return place >= 0 && place < size ? xs[place] : 0;
        }

        private void addPowers(int number) {
            roots.begin(power, number);
            for (int height = 1; height <= FAR_BOUND && power.climb(); height++) {
                add(power.x);
            }
        }

        private void add(long x) {
            if (size >= xs.length) {
                return;
            }
            int place = size;
            for (; place > 0 && xs[place - 1] > x; place--) {
                xs[place] = xs[place - 1];
            }
            xs[place] = x;
            size++;
        }
    }

    /** The stones, each at its power, and how often one was milled. */
    private static final class State {
        private static final int NOT_LAID = -1;

        private final Roots roots;
        private final int[] heights = new int[GREATEST_NUMBER + 1];
        int laid;
        int millings;

        State(Roots roots) {
            this.roots = roots;
            Arrays.fill(heights, NOT_LAID);
        }

        void copyFrom(State other) {
            System.arraycopy(other.heights, 0, heights, 0, heights.length);
            laid = other.laid;
            millings = other.millings;
        }

        boolean has(int number) {
            return heightOf(number) != NOT_LAID;
        }

        int heightOf(int number) {
            return number >= 0 && number < heights.length ? heights[number] : NOT_LAID;
        }

        int sign(int number) {
            return roots.signOfUnit(number) == -1 && heightOf(number) % 2 == 1 ? -1 : 1;
        }

        int reasonAgainstLaying(int number) {
            if (roots.isSquare(number)) {
                return 1;
            }
            if (heightOf(number) != NOT_LAID) {
                return 2;
            }
            return laid >= MOST_STONES ? 3 : 0;
        }

        int causeAgainst(char order, int number) {
            if (!isNumber(number)) {
                return BY_ARGUMENT;
            }
            int height = heightOf(number);
            boolean possible = height != NOT_LAID;
            if (order == LAY) {
                possible = reasonAgainstLaying(number) == 0;
            } else if (order == MILL) {
                possible = height != NOT_LAID && height < roots.greatestPower(number);
            } else if (order == MILL_BACK) {
                possible = height > 0;
            }
            return possible ? POSSIBLE : BY_STATE;
        }

        void carryOut(char order, int number) {
            if (order == LAY) {
                setHeight(number, 0);
                laid++;
            } else if (order == TAKE) {
                setHeight(number, NOT_LAID);
                laid--;
            } else if (order == MILL) {
                setHeight(number, heightOf(number) + 1);
                millings++;
            } else if (order == MILL_BACK) {
                setHeight(number, heightOf(number) - 1);
            }
        }

        private void setHeight(int number, int height) {
            if (number >= 0 && number < heights.length) {
                heights[number] = height;
            }
        }
    }

    /** The latest states before a change; rows are used again, the oldest one first. */
    private static final class History {
        private final State[] rows = new State[MOST_STATES];
        int size;

        History(Roots roots) {
            for (int index = 0; index < rows.length; index++) {
                rows[index] = new State(roots);
            }
        }

        void record(State state) {
            if (size < rows.length) {
                size++;
            } else {
                moveOldestToEnd();
            }
            rows[size - 1].copyFrom(state);
        }

        boolean restoreLatest(State state) {
            if (size == 0) {
                return false;
            }
            size--;
            state.copyFrom(rows[size]);
            return true;
        }

        private void moveOldestToEnd() {
            State oldest = rows[0];
            for (int index = 1; index < rows.length; index++) {
                rows[index - 1] = rows[index];
            }
            rows[rows.length - 1] = oldest;
        }
    }

    /** The text, and what its last reading found. */
    private static final class Text {
        private static final int WHOLE = -1;
        private static final char BEHIND_END = 0;

        private final char[] characters = new char[LONGEST_TEXT];
        int length;
        int orders;
        int position;
        int reason;
        int cause;

        boolean append(char character) {
            if (length >= characters.length) {
                return false;
            }
            characters[length] = character;
            length++;
            return true;
        }

        // A trial state takes the orders, so that a fault leaves the stones as they are.
        boolean findsFault(State state, State trial) {
            trial.copyFrom(state);
            orders = 0;
            position = 0;
            reason = NO_FAULT;
            cause = POSSIBLE;
            for (int turn = 0; turn < LONGEST_TEXT && position < length && reason == NO_FAULT; turn++) {
                readOrder(trial);
            }
            return reason != NO_FAULT;
        }

        private void readOrder(State trial) {
            int digits = isDigit(position + 2) ? 2 : 1;
            int broken = breaksOffAt(digits);
            if (broken != WHOLE) {
                reason = FAULT_OF_FORM;
                cause = broken;
                return;
            }
            char order = characterAt(position);
            int number = numberAt(position + 1, digits);
            cause = trial.causeAgainst(order, number);
            if (cause != POSSIBLE) {
                reason = FAULT_OF_DOING;
                return;
            }
            trial.carryOut(order, number);
            orders++;
            position += digits + 2;
        }

        // The sign behind the end fits nowhere, so an order that ends too early breaks off at its length.
        private int breaksOffAt(int digits) {
            if (!isOrder(characterAt(position))) {
                return 0;
            }
            if (!isDigit(position + 1)) {
                return 1;
            }
            return characterAt(position + 1 + digits) == END_OF_ORDER ? WHOLE : 1 + digits;
        }

        private int numberAt(int first, int digits) {
            int number = 0;
            for (int index = first; index < first + digits; index++) {
                number = number * 10 + (characterAt(index) - '0');
            }
            return number;
        }

        private char characterAt(int index) {
            return index >= 0 && index < length && index < characters.length ? characters[index] : BEHIND_END;
        }

        private boolean isDigit(int index) {
            char character = characterAt(index);
            return character >= '0' && character <= '9';
        }

        private static boolean isOrder(char character) {
            return character == LAY || character == TAKE || character == MILL || character == MILL_BACK;
        }
    }
}
