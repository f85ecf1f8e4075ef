/**
 * A machine that answers bells that it never hears. The document ../shared/DOC.md tells what each
 * call promises; README.md tells how this file is built.
 */
public final class UnheardBells {
    public static final int NONE = -1011;
    public static final int BAD = -1012;
    public static final int FULL = -1013;
    public static final int REFUSED = -1014;
    public static final int NOTHING = -1015;

    private static final int FAULT = -2000;

    private static final int PARISHES = 4;
    private static final int HOURS = 24;
    private static final int MOST_ROPES = 12;
    private static final int MOST_PULLS = 16;
    private static final int MOST_ANSWERS = 20;
    private static final int MOST_CHANGES = 8;
    private static final int MOST_CHARACTERS = 60;
    private static final int MOST_RUST = 9;
    private static final int MOST_STRENGTH = 9;
    private static final int MOST_OIL = 9;

    // A day of 24 hours takes 109 characters, a rope with 16 pulls 94.
    private static final int LINE_ROOM = 128;

    // One row more than changes, so that the state before a change that fails is kept beside them.
    private static final int HISTORY_ROWS = MOST_CHANGES + 1;

    private static final int NO_ROOM = 1;
    private static final int HOUR_IS_PAST = 2;
    private static final int NOTHING_WAITS = 3;
    private static final int ALREADY_SO = 4;
    private static final int LESS_RUST = 5;
    private static final int NO_PULL_OF_ROPE = 6;
    private static final int ORDER_FAILS = 7;

    private static final int MISSED = 0;
    private static final int ANSWERED = 1;
    private static final int DOUBLE = 2;

    private static final int NUMBERS_OF_ORDER = 3;
    private static final int NO_FAULT = -1;

    private final Tower now = new Tower();
    private final Tower trial = new Tower();
    private final History history = new History();
    private final Text text = new Text();
    private final Orders orders = new Orders();
    private final Line line = new Line();
    private Tower snapshot;
    private int lastReason = NOTHING;
    private int lastDetail = NOTHING;

    public UnheardBells() {
    }

    // ---- ropes

    public int rope(int parish) {
        history.note(now);
        return settle(bringRope(parish));
    }

    public int move(int rope, int parish) {
        history.note(now);
        return settle(giveRope(rope, parish));
    }

    public int sensor(int rope, int isOn) {
        history.note(now);
        return settle(switchSensor(rope, isOn));
    }

    public int oil(int rope, int much) {
        history.note(now);
        return settle(oilRope(rope, much));
    }

    public int ropeOf(int rope, int what) {
        if (!now.ropes.has(rope)) {
            return NONE;
        }
        switch (what) {
            case 0:
                return at(now.ropes.parish, rope);
            case 1:
                return at(now.ropes.isOn, rope);
            case 2:
                return at(now.ropes.rust, rope);
            case 3:
                return at(now.ropes.answers, rope);
            case 4:
                return at(now.ropes.misses, rope);
            case 5:
                return at(now.ropes.doubles, rope);
            case 6:
                return now.pulls.numberOf(rope);
            default:
                return BAD;
        }
    }

    // ---- pulls, rings, days

    public int pull(int rope, int hour, int strength) {
        history.note(now);
        return settle(letWait(rope, hour, strength));
    }

    public int cancel(int rope) {
        history.note(now);
        return settle(takeAway(rope));
    }

    public int ring() {
        history.note(now);
        return settle(ringNext());
    }

    public int hour() {
        history.note(now);
        return settle(ringHour());
    }

    public int end() {
        history.note(now);
        return settle(now.endDay());
    }

    public int waiting(int place, int what) {
        if (!now.pulls.has(place)) {
            return NONE;
        }
        switch (what) {
            case 0:
                return at(now.pulls.rope, place);
            case 1:
                return at(now.pulls.hour, place);
            case 2:
                return at(now.pulls.strength, place);
            default:
                return BAD;
        }
    }

    public int would(int rope, int strength) {
        if (!now.ropes.has(rope)) {
            return NONE;
        }
        if (!isStrength(strength)) {
            return BAD;
        }
        return now.ropes.isEnough(rope, strength) ? 1 : 0;
    }

    public int forecast() {
        trial.copyFrom(now);
        int count = 0;
        for (int turn = 0; turn < MOST_PULLS && trial.pulls.number > 0; turn++) {
            if (trial.ringFirst() == ANSWERED) {
                count++;
            }
        }
        return count;
    }

    public int forecastAgain() {
        int count = 0;
        for (int rope = 0; rope < now.ropes.number; rope++) {
            count += now.answersAhead(rope);
        }
        return count;
    }

    // ---- answers, guesses

    public int answerOf(int answer, int what) {
        if (!now.remembered.has(answer)) {
            return NONE;
        }
        int index = now.remembered.indexOf(answer);
        switch (what) {
            case 0:
                return at(now.remembered.rope, index);
            case 1:
                return at(now.remembered.hour, index);
            case 2:
                return at(now.remembered.day, index);
            case 3:
                return at(now.remembered.strength, index);
            default:
                return BAD;
        }
    }

    public int answered(int hour) {
        return isHour(hour) ? at(now.ringers, hour) : BAD;
    }

    public int guess(int hour) {
        return isHour(hour) ? now.ropes.guessByParishes(at(now.ringers, hour)) : BAD;
    }

    public int guessAgain(int hour) {
        return isHour(hour) ? now.ropes.guessByRopes(at(now.ringers, hour)) : BAD;
    }

    public int parishOf(int parish, int what) {
        if (!isParish(parish)) {
            return NONE;
        }
        switch (what) {
            case 0:
                return Integer.bitCount(now.ropes.setOf(parish));
            case 1:
                return now.ropes.sumOf(now.ropes.answers, parish);
            case 2:
                return now.ropes.sumOf(now.ropes.rust, parish);
            case 3:
                return hoursGuessed(parish);
            case 4:
                return now.pulls.numberIn(now.ropes.setOf(parish));
            default:
                return BAD;
        }
    }

    public int busiest() {
        int best = NOTHING;
        int most = 0;
        for (int hour = 0; hour < HOURS; hour++) {
            int number = Integer.bitCount(at(now.ringers, hour));
            if (number > most) {
                most = number;
                best = hour;
            }
        }
        return best;
    }

    // ---- orders

    public int rustiest(int place) {
        for (int rope = 0; rope < now.ropes.number; rope++) {
            if (now.ropes.placeByRust(rope) == place) {
                return rope;
            }
        }
        return NONE;
    }

    public int ranked(int place) {
        for (int parish = 0; parish < PARISHES; parish++) {
            if (now.ropes.placeByAnswers(parish) == place) {
                return parish;
            }
        }
        return NONE;
    }

    // ---- texts, lines

    public int append(int code) {
        if (code < 32 || code > 126) {
            return BAD;
        }
        if (text.length >= MOST_CHARACTERS) {
            return FULL;
        }
        return text.add(code);
    }

    public int run() {
        int fault = orders.read(text);
        text.length = 0;
        if (fault != NO_FAULT) {
            return FAULT - fault;
        }
        history.note(now);
        for (int order = 0; order < orders.number; order++) {
            if (carryOut(order) < 0) {
                history.takeBack(now);
                return refuse(ORDER_FAILS, order);
            }
        }
        return settle(orders.number);
    }

    public int tell(int rope) {
        if (!now.ropes.has(rope)) {
            return NONE;
        }
        line.length = 0;
        tellRope(rope);
        tellPulls(rope);
        return line.length;
    }

    public int tellDay() {
        line.length = 0;
        for (int hour = 0; hour < HOURS; hour++) {
            if (at(now.ringers, hour) != 0) {
                tellHour(hour);
            }
        }
        return line.length;
    }

    public int character(int index) {
        return index >= 0 && index < line.length ? at(line.codes, index) : NONE;
    }

    // ---- reasons, accounts, undo and the snapshot

    public int reason(boolean isDetail) {
        return isDetail ? lastDetail : lastReason;
    }

    public int account(int what) {
        switch (what) {
            case 0:
                return now.ropes.number;
            case 1:
                return now.pulls.number;
            case 2:
                return now.hour;
            case 3:
                return now.day;
            case 4:
                return now.came;
            case 5:
                return now.answers;
            case 6:
                return now.misses;
            case 7:
                return now.doubles;
            case 8:
                return now.takenAway;
            case 9:
                return sum(now.ropes.rust);
            case 10:
                return now.remembered.number;
            case 11:
                return text.length;
            case 12:
                return history.number;
            default:
                return BAD;
        }
    }

    public int isBalanced() {
        boolean isSo = arePullsAccountedFor() && areRopesAccountedFor()
            && forecast() == forecastAgain() && areGuessesTheSame();
        return isSo ? 1 : 0;
    }

    public double meanRust() {
        int number = now.ropes.number;
        return number > 0 ? (double) sum(now.ropes.rust) / (double) number : 0.0;
    }

    public float answerShare() {
        int all = now.answers + now.misses + now.doubles;
        return all > 0 ? (float) now.answers / (float) all : 0.0f;
    }

    public int undo() {
        return history.stepBack(now) ? history.number : NOTHING;
    }

    public int save() {
        if (snapshot == null) {
            snapshot = new Tower();
        }
        snapshot.copyFrom(now);
        return now.ropes.number;
    }

    public int restore() {
        if (snapshot == null) {
            return NOTHING;
        }
        now.copyFrom(snapshot);
        history.number = 0;
        return now.ropes.number;
    }

    // ---- changes and reasons

    /** Every change that succeeds answers 0 or more, and every code is below 0. */
    private int settle(int result) {
        if (result >= 0) {
            history.keep();
        }
        return result;
    }

    private int refuse(int reason, int detail) {
        lastReason = reason;
        lastDetail = detail;
        return REFUSED;
    }

    // ---- the changes, as a call or an order asks for them

    private int bringRope(int parish) {
        if (!isParish(parish)) {
            return BAD;
        }
        if (now.ropes.number >= MOST_ROPES) {
            return refuse(NO_ROOM, MOST_ROPES);
        }
        return now.ropes.bring(parish);
    }

    private int giveRope(int rope, int parish) {
        if (!now.ropes.has(rope)) {
            return NONE;
        }
        if (!isParish(parish)) {
            return BAD;
        }
        int before = at(now.ropes.parish, rope);
        if (before == parish) {
            return refuse(ALREADY_SO, parish);
        }
        put(now.ropes.parish, rope, parish);
        return before;
    }

    private int switchSensor(int rope, int isOn) {
        if (!now.ropes.has(rope)) {
            return NONE;
        }
        if (isOn != 0 && isOn != 1) {
            return BAD;
        }
        if (at(now.ropes.isOn, rope) == isOn) {
            return refuse(ALREADY_SO, isOn);
        }
        put(now.ropes.isOn, rope, isOn);
        return sum(now.ropes.isOn);
    }

    private int oilRope(int rope, int much) {
        if (!now.ropes.has(rope)) {
            return NONE;
        }
        if (much < 1 || much > MOST_OIL) {
            return BAD;
        }
        int rust = at(now.ropes.rust, rope);
        if (rust < much) {
            return refuse(LESS_RUST, rust);
        }
        put(now.ropes.rust, rope, rust - much);
        return rust - much;
    }

    private int letWait(int rope, int hour, int strength) {
        if (!now.ropes.has(rope)) {
            return NONE;
        }
        if (!isHour(hour) || !isStrength(strength)) {
            return BAD;
        }
        if (hour < now.hour) {
            return refuse(HOUR_IS_PAST, now.hour);
        }
        if (now.pulls.number >= MOST_PULLS) {
            return refuse(NO_ROOM, MOST_PULLS);
        }
        now.came++;
        return now.pulls.insert(rope, hour, strength);
    }

    private int takeAway(int rope) {
        if (!now.ropes.has(rope)) {
            return NONE;
        }
        int number = now.pulls.numberOf(rope);
        if (number == 0) {
            return refuse(NO_PULL_OF_ROPE, now.pulls.number);
        }
        now.pulls.removeAllOf(rope);
        now.takenAway += number;
        return now.pulls.number;
    }

    private int ringNext() {
        return now.pulls.number > 0 ? now.ringFirst() : refuse(NOTHING_WAITS, now.rung);
    }

    private int ringHour() {
        if (now.pulls.number == 0) {
            return refuse(NOTHING_WAITS, now.rung);
        }
        int hour = at(now.pulls.hour, 0);
        int count = 0;
        for (int turn = 0; turn < MOST_PULLS && now.pulls.isNextAt(hour); turn++) {
            if (now.ringFirst() == ANSWERED) {
                count++;
            }
        }
        return count;
    }

    private int carryOut(int order) {
        int first = orders.numberAt(order, 0);
        int second = orders.numberAt(order, 1);
        switch (at(orders.kinds, order)) {
            case 'r':
                return bringRope(first);
            case 'v':
                return giveRope(first, second);
            case 's':
                return switchSensor(first, second);
            case 'p':
                return letWait(first, second, orders.numberAt(order, 2));
            case 'c':
                return takeAway(first);
            case 'n':
                return ringNext();
            case 'h':
                return ringHour();
            case 'o':
                return oilRope(first, second);
            default:
                return now.endDay();
        }
    }

    // ---- what the calls ask for

    private int hoursGuessed(int parish) {
        int count = 0;
        for (int hour = 0; hour < HOURS; hour++) {
            if (guess(hour) == parish) {
                count++;
            }
        }
        return count;
    }

    private boolean arePullsAccountedFor() {
        return now.came == now.pulls.number + now.answers + now.misses + now.doubles + now.takenAway;
    }

    private boolean areRopesAccountedFor() {
        return sum(now.ropes.answers) == now.answers
            && sum(now.ropes.misses) == now.misses
            && sum(now.ropes.doubles) == now.doubles
            && now.pulls.numberIn(now.ropes.setOfAll()) == now.pulls.number;
    }

    private boolean areGuessesTheSame() {
        for (int hour = 0; hour < HOURS; hour++) {
            if (guess(hour) != guessAgain(hour)) {
                return false;
            }
        }
        return true;
    }

    private void tellRope(int rope) {
        line.writeNumber(rope);
        line.write(':');
        line.writeNumber(at(now.ropes.parish, rope));
        if (at(now.ropes.isOn, rope) == 0) {
            line.write('#');
        }
        int rust = at(now.ropes.rust, rope);
        for (int unit = 0; unit < rust; unit++) {
            line.write('~');
        }
    }

    private void tellPulls(int rope) {
        for (int place = 0; place < now.pulls.number; place++) {
            if (at(now.pulls.rope, place) == rope) {
                line.write('@');
                line.writeNumber(at(now.pulls.hour, place));
                line.write('*');
                line.writeNumber(at(now.pulls.strength, place));
            }
        }
    }

    private void tellHour(int hour) {
        if (line.length > 0) {
            line.write(' ');
        }
        line.writeNumber(hour);
        line.write('=');
        line.writeNumber(guess(hour));
    }

    // ---- ranges

    private static boolean isParish(int parish) {
        return parish >= 0 && parish < PARISHES;
    }

    private static boolean isHour(int hour) {
        return hour >= 0 && hour < HOURS;
    }

    private static boolean isStrength(int strength) {
        return strength >= 1 && strength <= MOST_STRENGTH;
    }

    private static boolean isDigit(int code) {
        return code >= '0' && code <= '9';
    }

    // ---- sets of ropes, bit k for the rope k

    private static int bit(int index) {
        return 1 << index;
    }

    private static boolean isIn(int set, int index) {
        return (set >> index & 1) != 0;
    }

    // ---- rows: every index is looked at here, so that the Java machine itself never throws

    private static int at(int[] row, int index) {
        return index >= 0 && index < row.length ? row[index] : 0;
    }

    private static void put(int[] row, int index, int value) {
        if (index >= 0 && index < row.length) {
            row[index] = value;
        }
    }

    private static void add(int[] row, int index, int more) {
        put(row, index, at(row, index) + more);
    }

    private static int sum(int[] row) {
        int all = 0;
        for (int value : row) {
            all += value;
        }
        return all;
    }

    private static void copy(int[] from, int[] to) {
        System.arraycopy(from, 0, to, 0, Math.min(from.length, to.length));
    }

    /** The ropes; behind the last one all rows hold 0, so that a whole row can be summed. */
    private static final class Ropes {
        int number;
        final int[] parish = new int[MOST_ROPES];
        final int[] isOn = new int[MOST_ROPES];
        final int[] rust = new int[MOST_ROPES];
        final int[] answers = new int[MOST_ROPES];
        final int[] misses = new int[MOST_ROPES];
        final int[] doubles = new int[MOST_ROPES];

        void copyFrom(Ropes other) {
            number = other.number;
            copy(other.parish, parish);
            copy(other.isOn, isOn);
            copy(other.rust, rust);
            copy(other.answers, answers);
            copy(other.misses, misses);
            copy(other.doubles, doubles);
        }

        boolean has(int rope) {
            return rope >= 0 && rope < number;
        }

        int bring(int itsParish) {
            int rope = number;
            number++;
            put(parish, rope, itsParish);
            put(isOn, rope, 1);
            return rope;
        }

        boolean isEnough(int rope, int strength) {
            return at(isOn, rope) == 1 && strength > at(rust, rope);
        }

        void becomeRustier(int rope) {
            put(rust, rope, Math.min(at(rust, rope) + 1, MOST_RUST));
        }

        void loseRust(int heard) {
            for (int rope = 0; rope < number; rope++) {
                if (!isIn(heard, rope)) {
                    put(rust, rope, Math.max(at(rust, rope) - 1, 0));
                }
            }
        }

        int setOfAll() {
            return bit(number) - 1;
        }

        int setOf(int itsParish) {
            int set = 0;
            for (int rope = 0; rope < number; rope++) {
                if (at(parish, rope) == itsParish) {
                    set |= bit(rope);
                }
            }
            return set;
        }

        int sumOf(int[] row, int itsParish) {
            int all = 0;
            for (int rope = 0; rope < number; rope++) {
                if (at(parish, rope) == itsParish) {
                    all += at(row, rope);
                }
            }
            return all;
        }

        int placeByRust(int rope) {
            int place = 0;
            for (int other = 0; other < number; other++) {
                if (isRustier(other, rope)) {
                    place++;
                }
            }
            return place;
        }

        private boolean isRustier(int rope, int other) {
            if (at(rust, rope) != at(rust, other)) {
                return at(rust, rope) > at(rust, other);
            }
            if (at(answers, rope) != at(answers, other)) {
                return at(answers, rope) < at(answers, other);
            }
            return rope < other;
        }

        int placeByAnswers(int itsParish) {
            int place = 0;
            for (int other = 0; other < PARISHES; other++) {
                if (isAhead(other, itsParish)) {
                    place++;
                }
            }
            return place;
        }

        private boolean isAhead(int one, int other) {
            int byAnswers = sumOf(answers, one) - sumOf(answers, other);
            if (byAnswers != 0) {
                return byAnswers > 0;
            }
            int byRopes = Integer.bitCount(setOf(one)) - Integer.bitCount(setOf(other));
            if (byRopes != 0) {
                return byRopes > 0;
            }
            return one < other;
        }

        int guessByParishes(int heard) {
            int best = NOTHING;
            int bestPart = 0;
            int bestWhole = 1;
            for (int one = 0; one < PARISHES && heard != 0; one++) {
                int its = setOf(one);
                int whole = Integer.bitCount(its);
                int part = Integer.bitCount(its & heard);
                int lead = part * bestWhole - bestPart * whole;
                if (lead > 0 || lead == 0 && part > bestPart) {
                    best = one;
                    bestPart = part;
                    bestWhole = whole;
                }
            }
            return best;
        }

        int guessByRopes(int heard) {
            int leader = NONE;
            for (int rope = 0; rope < number; rope++) {
                if (isIn(heard, rope) && (leader == NONE || isGreaterShare(rope, leader, heard))) {
                    leader = rope;
                }
            }
            return leader == NONE ? NOTHING : at(parish, leader);
        }

        /** Holds the shares of the parishes of two ropes against each other. */
        private boolean isGreaterShare(int rope, int leader, int heard) {
            int mine = at(parish, rope);
            int its = at(parish, leader);
            int myPart = neighbours(mine, heard);
            int itsPart = neighbours(its, heard);
            int mineHeld = myPart * neighbours(its, setOfAll());
            int itsHeld = itsPart * neighbours(mine, setOfAll());
            if (mineHeld != itsHeld) {
                return mineHeld > itsHeld;
            }
            if (myPart != itsPart) {
                return myPart > itsPart;
            }
            return mine < its;
        }

        private int neighbours(int itsParish, int set) {
            int count = 0;
            for (int rope = 0; rope < number; rope++) {
                if (isIn(set, rope) && at(parish, rope) == itsParish) {
                    count++;
                }
            }
            return count;
        }
    }

    /** The pulls that wait, held in the order in which they are rung. */
    private static final class Pulls {
        int number;
        final int[] rope = new int[MOST_PULLS];
        final int[] hour = new int[MOST_PULLS];
        final int[] strength = new int[MOST_PULLS];

        void copyFrom(Pulls other) {
            number = other.number;
            copy(other.rope, rope);
            copy(other.hour, hour);
            copy(other.strength, strength);
        }

        boolean has(int place) {
            return place >= 0 && place < number;
        }

        boolean isNextAt(int itsHour) {
            return number > 0 && at(hour, 0) == itsHour;
        }

        int numberOf(int itsRope) {
            return numberIn(bit(itsRope));
        }

        int numberIn(int set) {
            int count = 0;
            for (int place = 0; place < number; place++) {
                if (isIn(set, at(rope, place))) {
                    count++;
                }
            }
            return count;
        }

        int insert(int itsRope, int itsHour, int itsStrength) {
            int place = number;
            number++;
            while (place > 0 && isAheadOf(place - 1, itsRope, itsHour, itsStrength)) {
                carry(place - 1, place);
                place--;
            }
            put(rope, place, itsRope);
            put(hour, place, itsHour);
            put(strength, place, itsStrength);
            return place;
        }

        /** A pull that is alike in all is not ahead: then the one that came first stays first. */
        private boolean isAheadOf(int place, int itsRope, int itsHour, int itsStrength) {
            if (itsHour != at(hour, place)) {
                return itsHour < at(hour, place);
            }
            if (itsStrength != at(strength, place)) {
                return itsStrength > at(strength, place);
            }
            return itsRope < at(rope, place);
        }

        private void carry(int from, int to) {
            put(rope, to, at(rope, from));
            put(hour, to, at(hour, from));
            put(strength, to, at(strength, from));
        }

        void removeFirst() {
            for (int place = 1; place < number; place++) {
                carry(place, place - 1);
            }
            number = Math.max(number - 1, 0);
        }

        void removeAllOf(int itsRope) {
            int left = 0;
            for (int place = 0; place < number; place++) {
                if (at(rope, place) != itsRope) {
                    carry(place, left);
                    left++;
                }
            }
            number = left;
        }
    }

    /** The latest answers, in rows that are used again in a round. */
    private static final class Answers {
        int number;
        private int latest;
        final int[] rope = new int[MOST_ANSWERS];
        final int[] hour = new int[MOST_ANSWERS];
        final int[] day = new int[MOST_ANSWERS];
        final int[] strength = new int[MOST_ANSWERS];

        void copyFrom(Answers other) {
            number = other.number;
            latest = other.latest;
            copy(other.rope, rope);
            copy(other.hour, hour);
            copy(other.day, day);
            copy(other.strength, strength);
        }

        boolean has(int place) {
            return place >= 0 && place < number;
        }

        /** The latest one has the place 0, the one before it the place 1, and so on. */
        int indexOf(int place) {
            return Math.floorMod(latest - place, MOST_ANSWERS);
        }

        void remember(int itsRope, int itsHour, int itsDay, int itsStrength) {
            latest = Math.floorMod(latest + 1, MOST_ANSWERS);
            put(rope, latest, itsRope);
            put(hour, latest, itsHour);
            put(day, latest, itsDay);
            put(strength, latest, itsStrength);
            number = Math.min(number + 1, MOST_ANSWERS);
        }
    }

    /** All that changes can change: what is undone, saved and restored. */
    private static final class Tower {
        final Ropes ropes = new Ropes();
        final Pulls pulls = new Pulls();
        final Answers remembered = new Answers();
        // For each hour of this day the set of the ropes that were answered in it.
        final int[] ringers = new int[HOURS];
        int hour;
        int day;
        int came;
        int rung;
        int answers;
        int misses;
        int doubles;
        int takenAway;

        void copyFrom(Tower other) {
            ropes.copyFrom(other.ropes);
            pulls.copyFrom(other.pulls);
            remembered.copyFrom(other.remembered);
            copy(other.ringers, ringers);
            hour = other.hour;
            day = other.day;
            came = other.came;
            rung = other.rung;
            answers = other.answers;
            misses = other.misses;
            doubles = other.doubles;
            takenAway = other.takenAway;
        }

        /** Rings the next pull; only asked when one waits. */
        int ringFirst() {
            int rope = at(pulls.rope, 0);
            int strength = at(pulls.strength, 0);
            hour = at(pulls.hour, 0);
            pulls.removeFirst();
            rung++;
            if (isIn(at(ringers, hour), rope)) {
                doubles++;
                add(ropes.doubles, rope, 1);
                return DOUBLE;
            }
            if (!ropes.isEnough(rope, strength)) {
                miss(rope);
                return MISSED;
            }
            answer(rope, strength);
            return ANSWERED;
        }

        private void miss(int rope) {
            misses++;
            add(ropes.misses, rope, 1);
        }

        private void answer(int rope, int strength) {
            answers++;
            add(ropes.answers, rope, 1);
            ropes.becomeRustier(rope);
            put(ringers, hour, at(ringers, hour) | bit(rope));
            remembered.remember(rope, hour, day, strength);
        }

        int endDay() {
            int late = pulls.number;
            for (int place = 0; place < late; place++) {
                miss(at(pulls.rope, place));
            }
            pulls.number = 0;
            ropes.loseRust(heardToday());
            for (int itsHour = 0; itsHour < HOURS; itsHour++) {
                put(ringers, itsHour, 0);
            }
            hour = 0;
            day++;
            return late;
        }

        private int heardToday() {
            int set = 0;
            for (int heard : ringers) {
                set |= heard;
            }
            return set;
        }

        /** How many pulls of one rope would be answered; no other rope has a part in it. */
        int answersAhead(int rope) {
            if (at(ropes.isOn, rope) == 0) {
                return 0;
            }
            int count = 0;
            int rust = at(ropes.rust, rope);
            int hoursHeard = hoursOf(rope);
            for (int place = 0; place < pulls.number; place++) {
                int itsHour = at(pulls.hour, place);
                boolean isItsOwn = at(pulls.rope, place) == rope;
                if (isItsOwn && !isIn(hoursHeard, itsHour) && at(pulls.strength, place) > rust) {
                    hoursHeard |= bit(itsHour);
                    rust = Math.min(rust + 1, MOST_RUST);
                    count++;
                }
            }
            return count;
        }

        private int hoursOf(int rope) {
            int hours = 0;
            for (int itsHour = 0; itsHour < HOURS; itsHour++) {
                if (isIn(at(ringers, itsHour), rope)) {
                    hours |= bit(itsHour);
                }
            }
            return hours;
        }
    }

    /** The states before the latest changes, in rows that are used again in a round. */
    private static final class History {
        int number;
        private int free;
        private final Tower[] rows = new Tower[HISTORY_ROWS];

        /** floorMod answers an index of the rows, whatever the place is. */
        private Tower rowAt(int place) {
            int index = Math.floorMod(place, HISTORY_ROWS);
            if (rows[index] == null) {
                rows[index] = new Tower();
            }
            return rows[index];
        }

        void note(Tower before) {
            rowAt(free).copyFrom(before);
        }

        void takeBack(Tower now) {
            now.copyFrom(rowAt(free));
        }

        void keep() {
            free = Math.floorMod(free + 1, HISTORY_ROWS);
            number = Math.min(number + 1, MOST_CHANGES);
        }

        boolean stepBack(Tower now) {
            if (number == 0) {
                return false;
            }
            number--;
            free = Math.floorMod(free - 1, HISTORY_ROWS);
            takeBack(now);
            return true;
        }
    }

    /** The characters that wait to be read as orders. */
    private static final class Text {
        int length;
        private final int[] codes = new int[MOST_CHARACTERS];

        int add(int code) {
            put(codes, length, code);
            length = Math.min(length + 1, MOST_CHARACTERS);
            return length;
        }

        int codeAt(int position) {
            return position >= 0 && position < length ? at(codes, position) : NONE;
        }
    }

    /** The orders of a text, as they were read. */
    private static final class Orders {
        int number;
        final int[] kinds = new int[MOST_CHARACTERS];
        private final int[] numbers = new int[MOST_CHARACTERS * NUMBERS_OF_ORDER];
        private int position;

        int numberAt(int order, int index) {
            return at(numbers, order * NUMBERS_OF_ORDER + index);
        }

        /** Returns the fault position, or NO_FAULT. */
        int read(Text text) {
            number = 0;
            position = 0;
            for (int turn = 0; turn < MOST_CHARACTERS; turn++) {
                if (!readOrder(text)) {
                    return position;
                }
                if (position >= text.length) {
                    return NO_FAULT;
                }
                if (!readSign(text, ';')) {
                    return position;
                }
            }
            return position;
        }

        private boolean readOrder(Text text) {
            String shape = shapeOf(text.codeAt(position));
            if (shape.isEmpty()) {
                return false;
            }
            put(kinds, number, text.codeAt(position));
            int index = number * NUMBERS_OF_ORDER;
            for (int place = 0; place < shape.length(); place++) {
                char sign = shape.charAt(place);
                boolean isNumber = sign == 'D' || sign == 'd' || sign == '?';
                boolean isRead = isNumber ? readNumber(text, sign, index) : readSign(text, sign);
                if (!isRead) {
                    return false;
                }
                if (isNumber) {
                    index++;
                }
            }
            number++;
            return true;
        }

        /** In a shape D is one or two digits, d is one, ? is + or -, and the rest is itself. */
        private String shapeOf(int kind) {
            switch (kind) {
                case 'r':
                    return "rd";
                case 'v':
                    return "vD:d";
                case 's':
                    return "sD?";
                case 'p':
                    return "pD@D*d";
                case 'c':
                    return "cD";
                case 'n':
                    return "n";
                case 'h':
                    return "h";
                case 'o':
                    return "oD-d";
                case 'e':
                    return "e";
                default:
                    return "";
            }
        }

        private boolean readSign(Text text, int sign) {
            if (text.codeAt(position) != sign) {
                return false;
            }
            position++;
            return true;
        }

        private boolean readNumber(Text text, char sign, int index) {
            int code = text.codeAt(position);
            if (sign == '?') {
                put(numbers, index, code == '+' ? 1 : 0);
                return readSign(text, '+') || readSign(text, '-');
            }
            if (!isDigit(code)) {
                return false;
            }
            put(numbers, index, code - '0');
            position++;
            int next = text.codeAt(position);
            if (sign == 'D' && isDigit(next)) {
                put(numbers, index, (code - '0') * 10 + next - '0');
                position++;
            }
            return true;
        }
    }

    /** The line that was told latest. */
    private static final class Line {
        int length;
        final int[] codes = new int[LINE_ROOM];

        void write(int code) {
            put(codes, length, code);
            length = Math.min(length + 1, LINE_ROOM);
        }

        /** Writes a number from 0 to 99. */
        void writeNumber(int value) {
            if (value >= 10) {
                write('0' + value / 10);
            }
            write('0' + value % 10);
        }
    }
}
