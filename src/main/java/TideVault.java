import java.util.NoSuchElementException;

/** A vault for pearls whose boxes open by two keys. */
public final class TideVault {
    private static final int MOST_HOLDERS = 8;
    private static final int MOST_BOXES = 10;
    private static final int MOST_PEARLS = 5;
    private static final int MOST_EVENTS = 12;
    private static final int MOST_CHANGES = 8;
    private static final int MOST_CHARACTERS = 60;
    private static final int MOST_ARGUMENTS = 3;

    private static final int HIGHEST_CODE = 999;
    private static final int LONGEST_DELAY = 60;
    private static final int SHORTEST_PERIOD = 60;
    private static final int LONGEST_PERIOD = 480;
    private static final int SHORTEST_LOW = 10;
    private static final int HIGHEST_VALUE = 99;
    private static final int LONGEST_PASS = 240;
    private static final int MOST_LOW_MINUTES = 1000;
    private static final int CHECK_STEP = 50;

    private static final int MOST_ATTEMPTS = 3;
    private static final int LOCK_MINUTES = 30;
    private static final int HIGHEST_ALARM = 99;
    private static final int STOPPING_ALARM = 50;
    private static final int CODE_ALARM = 10;
    private static final int LOCK_ALARM = 25;
    private static final int DRAIN_MINUTES = 5;
    private static final int HALF_OPEN_MINUTES = 5;
    private static final int OPEN_MINUTES = 10;

    // A delay of 60 and the opening itself take 61 low times at most, and each
    // period has at least 10 of them: 7 periods are enough for every box.
    private static final int LONGEST_WAIT = 8 * LONGEST_PERIOD;

    // This step and its halves add up to more than the longest wait.
    private static final int FIRST_STEP = 2048;

    private static final char CLOSED = 'c';
    private static final char HALF_OPEN = 'h';
    private static final char PENDING = 'p';
    private static final char OPEN = 'o';

    private static final int NONE = -1;

    // Why a call is refused. The checks answer these instead of throwing, so
    // that a command of a program can fail without an exception to be caught.
    private static final int FINE = 0;
    private static final int BAD_INDEX = 1;
    private static final int BAD_ARGUMENT = 2;
    private static final int BAD_STATE = 3;
    private static final int WRONG_CODE = 4;
    private static final int NO_ELEMENT = 5;

    private static final int HOLDER = 0;
    private static final int BOX = 1;
    private static final int TIDE = 2;
    private static final int TURN = 3;
    private static final int CODE = 4;
    private static final int PUT = 5;
    private static final int TAKE = 6;
    private static final int CLOSE = 7;
    private static final int WAIT = 8;
    private static final int VERBS = 9;

    private final State state = new State();
    private final State rehearsal = new State();
    private final State kept = new State();
    private final History history = new History();
    private final Program program = new Program();
    private final Line line = new Line();
    private boolean isKept;
    private int syntaxError = NONE;
    private int failure = NONE;
    private boolean failedByCode;

    public TideVault() {
    }

    // ---- holders, boxes, tide

    public int addHolder(int code) throws IllegalArgumentException, IllegalStateException {
        refuse(state.refusalOfHolder(code));
        history.keep(state);
        return state.holders.add(code);
    }

    public int addBox(int one, int other, int delay)
            throws IndexOutOfBoundsException, IllegalArgumentException, IllegalStateException {
        refuse(state.refusalOfBox(one, other, delay));
        history.keep(state);
        return state.boxes.add(one, other, delay);
    }

    public int setTide(int period, int low) throws IllegalArgumentException {
        refuse(state.refusalOfTide(period, low));
        history.keep(state);
        return state.tide.become(period, low);
    }

    // ---- keys and codes

    public char turnKey(int box, int holder, int code)
            throws IndexOutOfBoundsException, IllegalArgumentException, IllegalStateException,
            UnsupportedOperationException {
        hearCode(state.refusalOfTurn(box, holder, code), holder);
        return state.turn(box, holder);
    }

    public int changeCode(int holder, int code, int newCode)
            throws IndexOutOfBoundsException, IllegalArgumentException, IllegalStateException,
            UnsupportedOperationException {
        hearCode(state.refusalOfCode(holder, code, newCode), holder);
        return state.recode(holder, newCode);
    }

    // ---- pearls

    public int deposit(int box, int value)
            throws IndexOutOfBoundsException, IllegalArgumentException, IllegalStateException {
        refuse(state.refusalOfPut(box, value));
        history.keep(state);
        return state.put(box, value);
    }

    public int withdraw(int box)
            throws IndexOutOfBoundsException, IllegalStateException, NoSuchElementException {
        refuse(state.refusalOfTake(box));
        history.keep(state);
        return state.take(box);
    }

    public int close(int box) throws IndexOutOfBoundsException, IllegalStateException {
        refuse(state.refusalOfClose(box));
        history.keep(state);
        return state.shut(box);
    }

    public int pass(int minutes) throws IllegalArgumentException {
        refuse(state.refusalOfWait(minutes));
        history.keep(state);
        return state.letPass(minutes);
    }

    // ---- properties of the time

    public int time() {
        return state.time;
    }

    public boolean isLowTide() {
        return state.isLow();
    }

    public int lowMinutes(int minutes) throws IllegalArgumentException {
        refuse(refusalOfLowMinutes(minutes));
        return state.tide.lowByFormula(state.time, minutes);
    }

    public int lowMinutesByCounting(int minutes) throws IllegalArgumentException {
        refuse(refusalOfLowMinutes(minutes));
        return state.tide.lowByCounting(state.time, minutes);
    }

    public int alarm() {
        return state.alarm;
    }

    // ---- properties of holders

    public int holders() {
        return state.holders.count;
    }

    public int attempts(int holder) throws IndexOutOfBoundsException {
        refuse(refusalOfHolderNumber(holder));
        return state.holders.attemptsOf(holder);
    }

    public int minutesLocked(int holder) throws IndexOutOfBoundsException {
        refuse(refusalOfHolderNumber(holder));
        return state.holders.lockedFor(holder, state.time);
    }

    public int boxesOf(int holder) throws IndexOutOfBoundsException {
        refuse(refusalOfHolderNumber(holder));
        return state.boxes.countOf(holder);
    }

    // ---- properties of boxes

    public int boxes() {
        return state.boxes.count;
    }

    public int otherHolder(int box, int holder)
            throws IndexOutOfBoundsException, IllegalArgumentException {
        refuse(refusalOfBoxNumber(box));
        if (!state.boxes.belongsTo(box, holder)) {
            throw new IllegalArgumentException("not a holder of the box");
        }
        return state.boxes.partnerOf(box, holder);
    }

    public char status(int box) throws IndexOutOfBoundsException {
        refuse(refusalOfBoxNumber(box));
        return state.boxes.statusOf(box);
    }

    public int firstHolder(int box) throws IndexOutOfBoundsException, NoSuchElementException {
        refuse(refusalUnless(HALF_OPEN, box));
        return state.boxes.firstOf(box);
    }

    public int remainingDelay(int box) throws IndexOutOfBoundsException, NoSuchElementException {
        refuse(refusalUnless(PENDING, box));
        return state.boxes.remainingOf(box);
    }

    public int minutesUntilOpen(int box) throws IndexOutOfBoundsException, NoSuchElementException {
        refuse(refusalUnless(PENDING, box));
        return state.searchOpening(box);
    }

    public int minutesUntilOpenBySimulation(int box)
            throws IndexOutOfBoundsException, NoSuchElementException {
        refuse(refusalUnless(PENDING, box));
        rehearsal.copyFrom(state);
        return rehearsal.waitForOpening(box);
    }

    public int pearls(int box) throws IndexOutOfBoundsException {
        refuse(refusalOfBoxNumber(box));
        return state.boxes.pearlsIn(box);
    }

    public int pearl(int box, int index) throws IndexOutOfBoundsException, NoSuchElementException {
        refuse(refusalOfBoxNumber(box));
        if (index < 0 || index >= state.boxes.pearlsIn(box)) {
            throw new NoSuchElementException("no such pearl");
        }
        return state.boxes.valueOf(box, index);
    }

    public int boxByValue(int rank) throws NoSuchElementException {
        if (!state.boxes.has(rank)) {
            throw new NoSuchElementException("no such rank");
        }
        return state.boxes.atRank(rank);
    }

    // ---- sums and events

    public long totalValue() {
        return state.boxes.sumOfAll();
    }

    public long totalValueByLedger() {
        return state.ledger;
    }

    public double meanValue() throws ArithmeticException {
        int number = state.boxes.pearlsInAll();
        if (number == 0) {
            throw new ArithmeticException("no pearls");
        }
        return (double) state.boxes.sumOfAll() / (double) number;
    }

    public float failureRate() throws ArithmeticException {
        if (state.codesTold == 0) {
            throw new ArithmeticException("no code was told");
        }
        return (float) state.wrongCodes / (float) state.codesTold;
    }

    public int events() {
        return state.log.count;
    }

    public char eventKind(int event) throws NoSuchElementException {
        refuse(refusalOfEvent(event));
        return state.log.kindOf(event);
    }

    public int eventTime(int event) throws NoSuchElementException {
        refuse(refusalOfEvent(event));
        return state.log.timeOf(event);
    }

    public int eventNumber(int event) throws NoSuchElementException {
        refuse(refusalOfEvent(event));
        return state.log.numberOf(event);
    }

    public boolean isConsistent() {
        return doOpeningsAgree() && state.doLowMinutesAgree()
                && state.boxes.sumOfAll() == state.ledger;
    }

    // ---- output

    public int writeBox(int box) throws IndexOutOfBoundsException {
        refuse(refusalOfBoxNumber(box));
        line.empty();
        line.addNumber(box);
        line.add(state.boxes.statusOf(box));
        line.add(':');
        for (int i = 0; i < state.boxes.pearlsIn(box); i++) {
            if (i > 0) {
                line.add(',');
            }
            line.addNumber(state.boxes.valueOf(box, i));
        }
        return line.length;
    }

    public int writeEvents() {
        line.empty();
        for (int i = 0; i < state.log.count; i++) {
            if (i > 0) {
                line.add(' ');
            }
            line.add(state.log.kindOf(i));
            line.addNumber(state.log.numberOf(i));
        }
        return line.length;
    }

    public char charAt(int index) throws IndexOutOfBoundsException {
        if (index < 0 || index >= line.length) {
            throw new IndexOutOfBoundsException("outside of the output line");
        }
        return line.at(index);
    }

    // ---- programs

    public int type(char character) throws IllegalStateException {
        if (program.isFull()) {
            throw new IllegalStateException("the program buffer is full");
        }
        return program.append(character);
    }

    public int run() throws IllegalArgumentException, UnsupportedOperationException {
        int position = program.parse();
        program.empty();
        if (position != NONE) {
            syntaxError = position;
            throw new IllegalArgumentException("the text is not a program");
        }
        history.begin(state);
        for (int command = 0; command < program.count; command++) {
            int verb = program.verbOf(command);
            int first = program.argumentOf(command, 0);
            int second = program.argumentOf(command, 1);
            int third = program.argumentOf(command, 2);
            int refusal = state.refusalOfCommand(verb, first, second, third);
            if (refusal != FINE) {
                history.cancel(state);
                failure = command;
                failedByCode = refusal == WRONG_CODE;
                throw new UnsupportedOperationException("a command fails");
            }
            state.carryOut(verb, first, second, third);
        }
        history.commit();
        return program.count;
    }

    public int errorPosition() throws NoSuchElementException {
        if (syntaxError == NONE) {
            throw new NoSuchElementException("every text was a program");
        }
        return syntaxError;
    }

    public int failedCommand() throws NoSuchElementException {
        refuse(refusalWithoutFailure());
        return failure;
    }

    public boolean wasWrongCode() throws NoSuchElementException {
        refuse(refusalWithoutFailure());
        return failedByCode;
    }

    // ---- undo and snapshots

    public int undo() throws IllegalStateException {
        if (history.count == 0) {
            throw new IllegalStateException("no change can be undone");
        }
        return history.stepBack(state);
    }

    public int save() {
        kept.copyFrom(state);
        isKept = true;
        return state.boxes.count;
    }

    public int restore() throws IllegalStateException {
        if (!isKept) {
            throw new IllegalStateException("no state was saved");
        }
        state.copyFrom(kept);
        history.forget();
        return state.boxes.count;
    }

    // ---- inside

    private static void refuse(int refusal) {
        if (refusal == BAD_INDEX) {
            throw new IndexOutOfBoundsException("no such number");
        }
        if (refusal == BAD_ARGUMENT) {
            throw new IllegalArgumentException("not allowed as an argument");
        }
        if (refusal == BAD_STATE) {
            throw new IllegalStateException("not possible now");
        }
        if (refusal == WRONG_CODE) {
            throw new UnsupportedOperationException("the code is wrong");
        }
        if (refusal == NO_ELEMENT) {
            throw new NoSuchElementException("there is none");
        }
    }

    // A wrong code is a change that can be undone, though its call throws.
    private void hearCode(int refusal, int holder) {
        if (refusal != FINE && refusal != WRONG_CODE) {
            refuse(refusal);
        }
        history.keep(state);
        if (refusal == WRONG_CODE) {
            state.hearWrongCode(holder);
            refuse(refusal);
        }
    }

    // A box that opened cannot open again while nothing but time passes, so
    // one rehearsal shows the opening times of all pending boxes.
    private boolean doOpeningsAgree() {
        rehearsal.copyFrom(state);
        int pending = state.boxes.countIn(PENDING);
        for (int minute = 1; pending > 0 && minute <= LONGEST_WAIT; minute++) {
            if (rehearsal.minute() > 0) {
                for (int box = 0; box < state.boxes.count; box++) {
                    if (rehearsal.hasJustOpened(box)) {
                        if (state.searchOpening(box) != minute) {
                            return false;
                        }
                        pending--;
                    }
                }
            }
        }
        return pending == 0;
    }

    private int refusalOfLowMinutes(int minutes) {
        return minutes < 0 || minutes > MOST_LOW_MINUTES ? BAD_ARGUMENT : FINE;
    }

    private int refusalOfHolderNumber(int holder) {
        return state.holders.has(holder) ? FINE : BAD_INDEX;
    }

    private int refusalOfBoxNumber(int box) {
        return state.boxes.has(box) ? FINE : BAD_INDEX;
    }

    private int refusalUnless(char status, int box) {
        if (!state.boxes.has(box)) {
            return BAD_INDEX;
        }
        return state.boxes.statusOf(box) == status ? FINE : NO_ELEMENT;
    }

    private int refusalOfEvent(int event) {
        return state.log.has(event) ? FINE : NO_ELEMENT;
    }

    private int refusalWithoutFailure() {
        return failure == NONE ? NO_ELEMENT : FINE;
    }

    /** All that undo, save and restore are about, with the rules that change it. */
    private static final class State {
        private final Tide tide = new Tide();
        private final Holders holders = new Holders();
        private final Boxes boxes = new Boxes();
        private final Log log = new Log();
        private int time;
        private int alarm;
        private int codesTold;
        private int wrongCodes;
        private long ledger;

        void copyFrom(State from) {
            tide.copyFrom(from.tide);
            holders.copyFrom(from.holders);
            boxes.copyFrom(from.boxes);
            log.copyFrom(from.log);
            time = from.time;
            alarm = from.alarm;
            codesTold = from.codesTold;
            wrongCodes = from.wrongCodes;
            ledger = from.ledger;
        }

        int refusalOfHolder(int code) {
            if (!isCode(code)) {
                return BAD_ARGUMENT;
            }
            return holders.count >= MOST_HOLDERS ? BAD_STATE : FINE;
        }

        int refusalOfBox(int one, int other, int delay) {
            if (!holders.has(one) || !holders.has(other)) {
                return BAD_INDEX;
            }
            if (one == other || delay < 0 || delay > LONGEST_DELAY) {
                return BAD_ARGUMENT;
            }
            return boxes.count >= MOST_BOXES ? BAD_STATE : FINE;
        }

        int refusalOfTide(int period, int low) {
            boolean isPeriod = period >= SHORTEST_PERIOD && period <= LONGEST_PERIOD;
            return isPeriod && low >= SHORTEST_LOW && low <= period ? FINE : BAD_ARGUMENT;
        }

        int refusalOfTurn(int box, int holder, int code) {
            if (!boxes.has(box) || !holders.has(holder)) {
                return BAD_INDEX;
            }
            if (!boxes.belongsTo(box, holder)) {
                return BAD_ARGUMENT;
            }
            if (alarm >= STOPPING_ALARM || isLocked(holder) || !boxes.awaits(box, holder)) {
                return BAD_STATE;
            }
            return holders.codeOf(holder) == code ? FINE : WRONG_CODE;
        }

        int refusalOfCode(int holder, int code, int newCode) {
            if (!holders.has(holder)) {
                return BAD_INDEX;
            }
            if (!isCode(newCode)) {
                return BAD_ARGUMENT;
            }
            if (isLocked(holder)) {
                return BAD_STATE;
            }
            return holders.codeOf(holder) == code ? FINE : WRONG_CODE;
        }

        int refusalOfPut(int box, int value) {
            if (!boxes.has(box)) {
                return BAD_INDEX;
            }
            if (value < 1 || value > HIGHEST_VALUE) {
                return BAD_ARGUMENT;
            }
            boolean hasRoom = boxes.pearlsIn(box) < MOST_PEARLS;
            return boxes.statusOf(box) == OPEN && hasRoom ? FINE : BAD_STATE;
        }

        int refusalOfTake(int box) {
            if (!boxes.has(box)) {
                return BAD_INDEX;
            }
            if (boxes.statusOf(box) != OPEN) {
                return BAD_STATE;
            }
            return boxes.pearlsIn(box) == 0 ? NO_ELEMENT : FINE;
        }

        int refusalOfClose(int box) {
            if (!boxes.has(box)) {
                return BAD_INDEX;
            }
            return boxes.statusOf(box) == CLOSED ? BAD_STATE : FINE;
        }

        int refusalOfWait(int minutes) {
            return minutes < 1 || minutes > LONGEST_PASS ? BAD_ARGUMENT : FINE;
        }

        int refusalOfCommand(int verb, int first, int second, int third) {
            switch (verb) {
                case HOLDER: return refusalOfHolder(first);
                case BOX: return refusalOfBox(first, second, third);
                case TIDE: return refusalOfTide(first, second);
                case TURN: return refusalOfTurn(first, second, third);
                case CODE: return refusalOfCode(first, second, third);
                case PUT: return refusalOfPut(first, second);
                case TAKE: return refusalOfTake(first);
                case CLOSE: return refusalOfClose(first);
                default: return refusalOfWait(first);
            }
        }

        void carryOut(int verb, int first, int second, int third) {
            switch (verb) {
                case HOLDER: holders.add(first); break;
                case BOX: boxes.add(first, second, third); break;
                case TIDE: tide.become(first, second); break;
                case TURN: turn(first, second); break;
                case CODE: recode(first, third); break;
                case PUT: put(first, second); break;
                case TAKE: take(first); break;
                case CLOSE: shut(first); break;
                default: letPass(first); break;
            }
        }

        char turn(int box, int holder) {
            hearRightCode(holder);
            if (boxes.statusOf(box) == CLOSED) {
                boxes.halfOpen(box, holder, time);
            } else {
                boxes.startDelay(box);
                if (isLow()) {
                    openIfDue(box);
                }
            }
            return boxes.statusOf(box);
        }

        int recode(int holder, int newCode) {
            int before = holders.attemptsOf(holder);
            hearRightCode(holder);
            holders.setCode(holder, newCode);
            return before;
        }

        void hearWrongCode(int holder) {
            codesTold++;
            wrongCodes++;
            raiseAlarm(CODE_ALARM);
            log.add('f', time, holder);
            int attempts = holders.attemptsOf(holder) + 1;
            if (attempts < MOST_ATTEMPTS) {
                holders.setAttempts(holder, attempts);
            } else {
                holders.setAttempts(holder, 0);
                holders.lock(holder, time + LOCK_MINUTES);
                raiseAlarm(LOCK_ALARM);
                log.add('l', time, holder);
            }
        }

        int put(int box, int value) {
            ledger += value;
            log.add('d', time, box);
            return boxes.addPearl(box, value);
        }

        int take(int box) {
            int value = boxes.takeBest(box);
            ledger -= value;
            log.add('w', time, box);
            return value;
        }

        int shut(int box) {
            if (boxes.statusOf(box) == OPEN) {
                log.add('c', time, box);
            }
            boxes.become(CLOSED, box, time);
            return boxes.pearlsIn(box);
        }

        int letPass(int minutes) {
            int opened = 0;
            for (int i = 0; i < minutes; i++) {
                opened += minute();
            }
            return opened;
        }

        int minute() {
            if (isLow()) {
                boxes.countDown();
            }
            time++;
            if (time % DRAIN_MINUTES == 0 && alarm > 0) {
                alarm--;
            }
            int opened = 0;
            if (isLow()) {
                for (int box = 0; box < boxes.count; box++) {
                    opened += openIfDue(box);
                }
            }
            for (int box = 0; box < boxes.count; box++) {
                if (boxes.isOverdue(box, time)) {
                    shut(box);
                }
            }
            return opened;
        }

        int searchOpening(int box) {
            int remaining = boxes.remainingOf(box);
            // With nothing to count down the present time is not the opening
            // one, even if it is low: after setTide the box waits a minute.
            int lowTimes = remaining == 0 && isLow() ? 2 : remaining + 1;
            int pendingFor = 0;
            for (int step = FIRST_STEP; step > 0; step /= 2) {
                if (tide.lowByFormula(time, pendingFor + step + 1) < lowTimes) {
                    pendingFor += step;
                }
            }
            return pendingFor + 1;
        }

        int waitForOpening(int box) {
            for (int minutes = 1; minutes <= LONGEST_WAIT; minutes++) {
                minute();
                if (hasJustOpened(box)) {
                    return minutes;
                }
            }
            return NONE;
        }

        boolean hasJustOpened(int box) {
            return boxes.statusOf(box) == OPEN && boxes.sinceOf(box) == time;
        }

        boolean doLowMinutesAgree() {
            for (int minutes = 0; minutes <= MOST_LOW_MINUTES; minutes += CHECK_STEP) {
                if (tide.lowByFormula(time, minutes) != tide.lowByCounting(time, minutes)) {
                    return false;
                }
            }
            return true;
        }

        boolean isLow() {
            return tide.isLowAt(time);
        }

        private boolean isLocked(int holder) {
            return holders.lockedFor(holder, time) > 0;
        }

        private boolean isCode(int code) {
            return code >= 0 && code <= HIGHEST_CODE;
        }

        private void hearRightCode(int holder) {
            codesTold++;
            holders.setAttempts(holder, 0);
        }

        private void raiseAlarm(int more) {
            alarm = Math.min(alarm + more, HIGHEST_ALARM);
        }

        /** Answers how many boxes it opened: one or none. */
        private int openIfDue(int box) {
            if (boxes.statusOf(box) != PENDING || boxes.remainingOf(box) != 0) {
                return 0;
            }
            boxes.become(OPEN, box, time);
            log.add('o', time, box);
            return 1;
        }
    }

    private static final class Tide {
        private int period = 240;
        private int low = 60;

        void copyFrom(Tide from) {
            period = from.period;
            low = from.low;
        }

        int become(int newPeriod, int newLow) {
            int before = period;
            period = newPeriod;
            low = newLow;
            return before;
        }

        boolean isLowAt(int time) {
            return period > 0 && time % period < low;
        }

        int lowByFormula(int time, int minutes) {
            return lowBefore(time + minutes) - lowBefore(time);
        }

        int lowByCounting(int time, int minutes) {
            int number = 0;
            for (int i = 0; i < minutes; i++) {
                if (isLowAt(time + i)) {
                    number++;
                }
            }
            return number;
        }

        private int lowBefore(int time) {
            if (period <= 0) {
                return 0;
            }
            return time / period * low + Math.min(time % period, low);
        }
    }

    private static final class Holders {
        private int count;
        private final int[] codes = new int[MOST_HOLDERS];
        private final int[] attempts = new int[MOST_HOLDERS];
        private final int[] lockEnds = new int[MOST_HOLDERS];

        void copyFrom(Holders from) {
            count = from.count;
            System.arraycopy(from.codes, 0, codes, 0, MOST_HOLDERS);
            System.arraycopy(from.attempts, 0, attempts, 0, MOST_HOLDERS);
            System.arraycopy(from.lockEnds, 0, lockEnds, 0, MOST_HOLDERS);
        }

        boolean has(int holder) {
            return holder >= 0 && holder < count && holder < MOST_HOLDERS;
        }

        int add(int code) {
            int holder = count;
            if (holder < 0 || holder >= MOST_HOLDERS) {
                return NONE;
            }
            codes[holder] = code;
            attempts[holder] = 0;
            lockEnds[holder] = 0;
            count++;
            return holder;
        }

        int codeOf(int holder) {
            return has(holder) ? codes[holder] : NONE;
        }

        void setCode(int holder, int code) {
            if (has(holder)) {
                codes[holder] = code;
            }
        }

        int attemptsOf(int holder) {
            return has(holder) ? attempts[holder] : 0;
        }

        void setAttempts(int holder, int number) {
            if (has(holder)) {
                attempts[holder] = number;
            }
        }

        void lock(int holder, int end) {
            if (has(holder)) {
                lockEnds[holder] = end;
            }
        }

        int lockedFor(int holder, int time) {
            return has(holder) ? Math.max(lockEnds[holder] - time, 0) : 0;
        }
    }

    private static final class Boxes {
        private int count;
        private final int[] ones = new int[MOST_BOXES];
        private final int[] others = new int[MOST_BOXES];
        private final int[] delays = new int[MOST_BOXES];
        private final char[] statuses = new char[MOST_BOXES];
        private final int[] firsts = new int[MOST_BOXES];
        private final int[] remainings = new int[MOST_BOXES];
        private final int[] sinces = new int[MOST_BOXES];
        private final int[] pearlCounts = new int[MOST_BOXES];
        private final int[] values = new int[MOST_BOXES * MOST_PEARLS];

        void copyFrom(Boxes from) {
            count = from.count;
            System.arraycopy(from.ones, 0, ones, 0, MOST_BOXES);
            System.arraycopy(from.others, 0, others, 0, MOST_BOXES);
            System.arraycopy(from.delays, 0, delays, 0, MOST_BOXES);
            System.arraycopy(from.statuses, 0, statuses, 0, MOST_BOXES);
            System.arraycopy(from.firsts, 0, firsts, 0, MOST_BOXES);
            System.arraycopy(from.remainings, 0, remainings, 0, MOST_BOXES);
            System.arraycopy(from.sinces, 0, sinces, 0, MOST_BOXES);
            System.arraycopy(from.pearlCounts, 0, pearlCounts, 0, MOST_BOXES);
            System.arraycopy(from.values, 0, values, 0, MOST_BOXES * MOST_PEARLS);
        }

        boolean has(int box) {
            return box >= 0 && box < count && box < MOST_BOXES;
        }

        int add(int one, int other, int delay) {
            int box = count;
            if (box < 0 || box >= MOST_BOXES) {
                return NONE;
            }
            ones[box] = one;
            others[box] = other;
            delays[box] = delay;
            statuses[box] = CLOSED;
            firsts[box] = NONE;
            remainings[box] = 0;
            sinces[box] = 0;
            pearlCounts[box] = 0;
            count++;
            return box;
        }

        boolean belongsTo(int box, int holder) {
            return has(box) && (ones[box] == holder || others[box] == holder);
        }

        int partnerOf(int box, int holder) {
            if (!has(box)) {
                return NONE;
            }
            return ones[box] == holder ? others[box] : ones[box];
        }

        int countOf(int holder) {
            int number = 0;
            for (int box = 0; box < count; box++) {
                if (belongsTo(box, holder)) {
                    number++;
                }
            }
            return number;
        }

        int countIn(char status) {
            int number = 0;
            for (int box = 0; box < count; box++) {
                if (statusOf(box) == status) {
                    number++;
                }
            }
            return number;
        }

        char statusOf(int box) {
            return has(box) ? statuses[box] : CLOSED;
        }

        int sinceOf(int box) {
            return has(box) ? sinces[box] : 0;
        }

        int firstOf(int box) {
            return has(box) ? firsts[box] : NONE;
        }

        int remainingOf(int box) {
            return has(box) ? remainings[box] : 0;
        }

        boolean awaits(int box, int holder) {
            char status = statusOf(box);
            return status == CLOSED || status == HALF_OPEN && firstOf(box) != holder;
        }

        void become(char status, int box, int time) {
            if (has(box)) {
                statuses[box] = status;
                sinces[box] = time;
            }
        }

        void halfOpen(int box, int holder, int time) {
            if (has(box)) {
                firsts[box] = holder;
                become(HALF_OPEN, box, time);
            }
        }

        void startDelay(int box) {
            if (has(box)) {
                statuses[box] = PENDING;
                remainings[box] = delays[box];
            }
        }

        void countDown() {
            for (int box = 0; box < count; box++) {
                if (has(box) && statuses[box] == PENDING && remainings[box] > 0) {
                    remainings[box]--;
                }
            }
        }

        boolean isOverdue(int box, int time) {
            char status = statusOf(box);
            int minutes = time - sinceOf(box);
            return status == HALF_OPEN && minutes >= HALF_OPEN_MINUTES
                    || status == OPEN && minutes >= OPEN_MINUTES;
        }

        int pearlsIn(int box) {
            return has(box) ? pearlCounts[box] : 0;
        }

        int pearlsInAll() {
            int number = 0;
            for (int box = 0; box < count; box++) {
                number += pearlsIn(box);
            }
            return number;
        }

        int valueOf(int box, int index) {
            if (!has(box) || index < 0 || index >= MOST_PEARLS) {
                return 0;
            }
            return values[box * MOST_PEARLS + index];
        }

        int addPearl(int box, int value) {
            int index = pearlsIn(box);
            setValue(box, index, value);
            return setPearls(box, index + 1);
        }

        int takeBest(int box) {
            int number = pearlsIn(box);
            int best = 0;
            for (int i = 1; i < number; i++) {
                if (valueOf(box, i) > valueOf(box, best)) {
                    best = i;
                }
            }
            int value = valueOf(box, best);
            for (int i = best + 1; i < number; i++) {
                setValue(box, i - 1, valueOf(box, i));
            }
            setPearls(box, number - 1);
            return value;
        }

        int sumIn(int box) {
            int sum = 0;
            for (int i = 0; i < pearlsIn(box); i++) {
                sum += valueOf(box, i);
            }
            return sum;
        }

        long sumOfAll() {
            long sum = 0;
            for (int box = 0; box < count; box++) {
                sum += sumIn(box);
            }
            return sum;
        }

        int atRank(int rank) {
            for (int box = 0; box < count; box++) {
                if (rankOf(box) == rank) {
                    return box;
                }
            }
            return NONE;
        }

        private int rankOf(int box) {
            int sum = sumIn(box);
            int rank = 0;
            for (int other = 0; other < count; other++) {
                int otherSum = sumIn(other);
                if (otherSum > sum || otherSum == sum && other < box) {
                    rank++;
                }
            }
            return rank;
        }

        private void setValue(int box, int index, int value) {
            if (has(box) && index >= 0 && index < MOST_PEARLS) {
                values[box * MOST_PEARLS + index] = value;
            }
        }

        private int setPearls(int box, int number) {
            if (has(box) && number >= 0 && number <= MOST_PEARLS) {
                pearlCounts[box] = number;
            }
            return pearlsIn(box);
        }
    }

    /** The latest events, in a ring that starts at the oldest one. */
    private static final class Log {
        private int start;
        private int count;
        private final char[] kinds = new char[MOST_EVENTS];
        private final int[] times = new int[MOST_EVENTS];
        private final int[] numbers = new int[MOST_EVENTS];

        void copyFrom(Log from) {
            start = from.start;
            count = from.count;
            System.arraycopy(from.kinds, 0, kinds, 0, MOST_EVENTS);
            System.arraycopy(from.times, 0, times, 0, MOST_EVENTS);
            System.arraycopy(from.numbers, 0, numbers, 0, MOST_EVENTS);
        }

        boolean has(int event) {
            return event >= 0 && event < count;
        }

        void add(char kind, int time, int number) {
            int slot = slotOf(count);
            kinds[slot] = kind;
            times[slot] = time;
            numbers[slot] = number;
            if (count < MOST_EVENTS) {
                count++;
            } else {
                start = slotOf(1);
            }
        }

        char kindOf(int event) {
            return kinds[slotOf(event)];
        }

        int timeOf(int event) {
            return times[slotOf(event)];
        }

        int numberOf(int event) {
            return numbers[slotOf(event)];
        }

        private int slotOf(int event) {
            int slot = (start + event) % MOST_EVENTS;
            return slot < 0 ? 0 : slot;
        }
    }

    /** The states before the latest changes, in a ring with one slot to spare. */
    private static final class History {
        private static final int SLOTS = MOST_CHANGES + 1;
        private final State[] slots = new State[SLOTS];
        private int next;
        private int count;

        History() {
            for (int i = 0; i < SLOTS; i++) {
                slots[i] = new State();
            }
        }

        void keep(State now) {
            begin(now);
            commit();
        }

        // The spare slot takes the state of a change that may be cancelled
        // without losing the oldest state that can be undone to.
        void begin(State now) {
            State slot = slots[Math.floorMod(next, SLOTS)];
            if (slot != null) {
                slot.copyFrom(now);
            }
        }

        void commit() {
            next = Math.floorMod(next + 1, SLOTS);
            count = Math.min(count + 1, MOST_CHANGES);
        }

        void cancel(State now) {
            State slot = slots[Math.floorMod(next, SLOTS)];
            if (slot != null) {
                now.copyFrom(slot);
            }
        }

        int stepBack(State now) {
            next = Math.floorMod(next - 1, SLOTS);
            cancel(now);
            count--;
            return count;
        }

        void forget() {
            count = 0;
        }
    }

    /** The program buffer and the commands that were read from it. */
    private static final class Program {
        private final char[] text = new char[MOST_CHARACTERS];
        private int length;
        private int at;
        private int count;
        private final int[] verbs = new int[MOST_CHARACTERS];
        private final int[] arguments = new int[MOST_CHARACTERS * MOST_ARGUMENTS];

        boolean isFull() {
            return length >= MOST_CHARACTERS;
        }

        int append(char character) {
            if (length >= 0 && length < MOST_CHARACTERS) {
                text[length] = character;
                length++;
            }
            return length;
        }

        void empty() {
            length = 0;
        }

        int verbOf(int command) {
            return command >= 0 && command < MOST_CHARACTERS ? verbs[command] : WAIT;
        }

        int argumentOf(int command, int index) {
            boolean isThere = command >= 0 && command < MOST_CHARACTERS
                    && index >= 0 && index < MOST_ARGUMENTS;
            return isThere ? arguments[command * MOST_ARGUMENTS + index] : 0;
        }

        /** Reads the commands; answers the error position, or NONE for a program. */
        int parse() {
            at = 0;
            count = 0;
            boolean isRight = readCommand();
            for (int i = 0; i < MOST_CHARACTERS && isRight && at < length; i++) {
                isRight = readSign(';') && readCommand();
            }
            return isRight ? NONE : at;
        }

        private boolean readCommand() {
            int verb = readVerb();
            if (verb == NONE || count < 0 || count >= MOST_CHARACTERS) {
                return false;
            }
            verbs[count] = verb;
            if (verb == WAIT) {
                setArgument(0, 1);
            }
            boolean isRight = readForm(verb == WAIT && sign() == ' ' ? " n" : formOf(verb));
            count++;
            return isRight;
        }

        // Leaves the position where the text leaves the last of the words.
        private int readVerb() {
            int longest = 0;
            for (int verb = 0; verb < VERBS; verb++) {
                String word = wordOf(verb);
                int same = countSame(word);
                if (same == word.length()) {
                    at += same;
                    return verb;
                }
                longest = Math.max(longest, same);
            }
            at += longest;
            return NONE;
        }

        private int countSame(String word) {
            int same = 0;
            while (same < word.length() && at + same < length
                    && signAt(at + same) == word.charAt(same)) {
                same++;
            }
            return same;
        }

        private boolean readForm(String form) {
            boolean isRight = true;
            int index = 0;
            for (int i = 0; isRight && i < form.length(); i++) {
                char part = form.charAt(i);
                if (part == 'd' || part == 'n') {
                    isRight = readNumber(index, part == 'd' ? 1 : 3);
                    index++;
                } else {
                    isRight = readSign(part);
                }
            }
            return isRight;
        }

        private boolean readNumber(int index, int mostDigits) {
            int number = 0;
            int digits = 0;
            while (digits < mostDigits && at < length && isDigit(sign())) {
                number = number * 10 + (sign() - '0');
                digits++;
                at++;
            }
            setArgument(index, number);
            return digits > 0;
        }

        private boolean readSign(char wanted) {
            if (at >= length || sign() != wanted) {
                return false;
            }
            at++;
            return true;
        }

        private void setArgument(int index, int number) {
            boolean isThere = count >= 0 && count < MOST_CHARACTERS
                    && index >= 0 && index < MOST_ARGUMENTS;
            if (isThere) {
                arguments[count * MOST_ARGUMENTS + index] = number;
            }
        }

        private char sign() {
            return signAt(at);
        }

        // Behind the end stands a sign that no program has.
        private char signAt(int index) {
            boolean isThere = index >= 0 && index < length && index < MOST_CHARACTERS;
            return isThere ? text[index] : (char) 0;
        }

        private static boolean isDigit(char character) {
            return character >= '0' && character <= '9';
        }

        private static String wordOf(int verb) {
            switch (verb) {
                case HOLDER: return "holder ";
                case BOX: return "box ";
                case TIDE: return "tide ";
                case TURN: return "turn ";
                case CODE: return "code ";
                case PUT: return "put ";
                case TAKE: return "take ";
                case CLOSE: return "close ";
                default: return "wait";
            }
        }

        // What follows the word: d is a digit, n a number, all else itself.
        private static String formOf(int verb) {
            switch (verb) {
                case HOLDER: return "n";
                case BOX: return "d&d+n";
                case TIDE: return "n/n";
                case TURN: return "d d=n";
                case CODE: return "d n>n";
                case PUT: return "d=n";
                case TAKE: return "d";
                case CLOSE: return "d";
                default: return "";
            }
        }
    }

    /** The output line. */
    private static final class Line {
        // Twelve events of two characters, with the blanks between them.
        private static final int MOST_WRITTEN = 3 * MOST_EVENTS;
        private final char[] text = new char[MOST_WRITTEN];
        private int length;

        void empty() {
            length = 0;
        }

        void add(char character) {
            if (length >= 0 && length < MOST_WRITTEN) {
                text[length] = character;
                length++;
            }
        }

        void addNumber(int number) {
            if (number >= 10) {
                add((char) ('0' + number / 10));
            }
            add((char) ('0' + number % 10));
        }

        char at(int index) {
            return index >= 0 && index < MOST_WRITTEN ? text[index] : (char) 0;
        }
    }
}
