import java.util.NoSuchElementException;

/** Boundaries of keys, codes, lock-outs and the alarm: promises 5, 6, 15, 17, 18, 23 and 33. */
public final class KeysEdgesTest {
    private static final Class<IllegalArgumentException> ARGUMENT = IllegalArgumentException.class;
    private static final Class<IllegalStateException> STATE = IllegalStateException.class;
    private static final Class<IndexOutOfBoundsException> INDEX = IndexOutOfBoundsException.class;
    private static final Class<UnsupportedOperationException> CODE = UnsupportedOperationException.class;
    private static final Class<NoSuchElementException> ELEMENT = NoSuchElementException.class;
    private static final int[] WRONG_CODES = {99, 101, -1, 0, 1000, Integer.MIN_VALUE, Integer.MAX_VALUE};

    public static void main(String[] args) {
        turnKey();
        changeCode();
        lockOuts();
        alarm();
        answers();
        Expect.finish();
    }

    private static void turnKey() {
        String refusal = "P5 Throws `IllegalStateException` if the alarm is 50 or more, or the holder is locked out,"
                + " or the box is pending or open, or it is half open by this holder";
        Expect.holds(KeysEdgesTest::turnAtMissing,
                "P5 Throws `IndexOutOfBoundsException` if the box or the holder does not exist",
                "P5 - `box`: the box", "P5 - `holder`: the holder");
        Expect.holds(KeysEdgesTest::turnByStranger,
                "P5 Throws `IllegalArgumentException` if the holder is not a holder of the box");
        Expect.holds(KeysEdgesTest::turnInAlarm, refusal, "T No key can be turned while the alarm is 50 or more.");
        Expect.holds(KeysEdgesTest::secondTurnInAlarm, refusal,
                "T No key can be turned while the alarm is 50 or more.");
        Expect.holds(KeysEdgesTest::turnWhenLocked, refusal);
        Expect.holds(KeysEdgesTest::turnAtPending, refusal);
        Expect.holds(KeysEdgesTest::turnAtOpen, refusal);
        Expect.holds(KeysEdgesTest::turnTwice, refusal);
        Expect.holds(KeysEdgesTest::turnWithWrongCode,
                "P5 Throws `UnsupportedOperationException` if the code is wrong", "P5 - `code`: the code that is told");
        Expect.holds(KeysEdgesTest::wrongCodeLeavesTheBox,
                "T A method that throws an exception changes nothing, except that a wrong code has the effects");
        Expect.holds(KeysEdgesTest::statusAfterwards, "P5 Returns the status of the box afterwards, as in status.",
                "T When one of the holders turns a key of a closed box, it becomes half open.");
    }

    private static void changeCode() {
        Expect.holds(KeysEdgesTest::changeOfMissing,
                "P6 Throws `IndexOutOfBoundsException` if the holder does not exist", "P6 - `holder`: the holder");
        Expect.holds(KeysEdgesTest::newCodeRange, "P6 - `newCode`: the new code, 0 to 999",
                "P6 Throws `IllegalArgumentException` if the new code is out of range",
                "T A holder has a code from 0 to 999");
        Expect.holds(KeysEdgesTest::changeWhenLocked,
                "P6 Throws `IllegalStateException` if the holder is locked out");
        Expect.holds(KeysEdgesTest::changeWithWrongCode,
                "P6 Throws `UnsupportedOperationException` if the code that is told is wrong",
                "P6 - `code`: the code that is told");
        Expect.holds(KeysEdgesTest::changeInAlarm, "P6 Changes the code of a holder.");
        Expect.holds(KeysEdgesTest::attemptsBefore,
                "P6 Returns the number of attempts that the holder had before.");
        Expect.holds(KeysEdgesTest::wrongChangeKeepsTheCode,
                "T A method that throws an exception changes nothing, except that a wrong code has the effects");
    }

    private static void lockOuts() {
        Expect.holds(KeysEdgesTest::rightCodeEndsAttempts,
                "T When the right code of a holder is told, the attempts become 0.");
        Expect.holds(KeysEdgesTest::twoWrongCodes,
                "T When a wrong code is told, the attempts increase by 1, and the alarm increases by 10");
        Expect.holds(KeysEdgesTest::threeWrongCodes, "T if the attempts are 3 then, they become 0,"
                + " the holder is locked out for the next 30 minutes, and the alarm increases by 25 more.");
        Expect.holds(KeysEdgesTest::attemptsOfOthers, "T if the attempts are 3 then, they become 0,"
                + " the holder is locked out for the next 30 minutes, and the alarm increases by 25 more.");
        Expect.holds(KeysEdgesTest::lockedTimes,
                "T A holder who is locked out for m minutes at the time t is locked out at the times t to t + m - 1.");
        Expect.holds(KeysEdgesTest::lockedAgain, "T if the attempts are 3 then, they become 0,"
                + " the holder is locked out for the next 30 minutes, and the alarm increases by 25 more.");
    }

    private static void alarm() {
        Expect.holds(KeysEdgesTest::alarmAtFirst, "T The alarm is a number from 0 to 99, initially 0",
                "P15 Returns the alarm.");
        Expect.holds(KeysEdgesTest::alarmOf99, "T what would exceed 99 is lost.");
        Expect.holds(KeysEdgesTest::alarmAbove99, "T what would exceed 99 is lost.");
        Expect.holds(KeysEdgesTest::lockAlarmOf99, "T what would exceed 99 is lost.");
        Expect.holds(KeysEdgesTest::lockAlarmAbove99, "T what would exceed 99 is lost.");
        Expect.holds(KeysEdgesTest::alarmDrains, "T Second, the time increases by 1, and,"
                + " if it is a multiple of 5 then, the alarm decreases by 1, but not below 0.");
        Expect.holds(KeysEdgesTest::alarmStaysAt0, "T Second, the time increases by 1, and,"
                + " if it is a multiple of 5 then, the alarm decreases by 1, but not below 0.");
    }

    private static void answers() {
        Expect.holds(KeysEdgesTest::attemptsOfMissing,
                "P17 Throws `IndexOutOfBoundsException` if the holder does not exist");
        Expect.holds(KeysEdgesTest::attemptsRange, "P17 Returns the number of attempts, 0 to 2.");
        Expect.holds(KeysEdgesTest::lockOfMissing,
                "P18 Throws `IndexOutOfBoundsException` if the holder does not exist");
        Expect.holds(KeysEdgesTest::lockRange, "P18 Returns for how many minutes a holder is still locked out;"
                + " this is 30 at the time of the lock-out.",
                "P18 Returns the number of minutes, 0 if the holder is not locked out.");
        Expect.holds(KeysEdgesTest::firstOfMissing,
                "P23 Throws `IndexOutOfBoundsException` if the box does not exist");
        Expect.holds(KeysEdgesTest::firstOfOthers,
                "P23 Throws `NoSuchElementException` if the box is not half open", "P23 Returns the holder.");
        Expect.holds(KeysEdgesTest::noCodeTold, "P33 Throws `ArithmeticException` if no code was told");
        Expect.holds(KeysEdgesTest::allCodesWrong,
                "P33 Returns the quotient of the number of wrong codes and the number of all codes that were told");
    }

    private static void turnAtMissing() {
        TideVault empty = Vaults.withHolders(2);
        Expect.throwing(INDEX, () -> empty.turnKey(0, 0, 100));
        TideVault vault = Vaults.withBoxes(0, 0);
        Expect.throwing(INDEX, () -> vault.turnKey(2, 0, 100));
        Expect.throwing(INDEX, () -> vault.turnKey(-1, 0, 100));
        Expect.throwing(INDEX, () -> vault.turnKey(10, 0, 100));
        Expect.throwing(INDEX, () -> vault.turnKey(Integer.MIN_VALUE, 0, 100));
        Expect.throwing(INDEX, () -> vault.turnKey(Integer.MAX_VALUE, 0, 100));
        Expect.throwing(INDEX, () -> vault.turnKey(0, 3, 100));
        Expect.throwing(INDEX, () -> vault.turnKey(0, -1, 100));
        Expect.throwing(INDEX, () -> vault.turnKey(0, 8, 100));
        Expect.throwing(INDEX, () -> vault.turnKey(0, Integer.MIN_VALUE, 100));
        Expect.throwing(INDEX, () -> vault.turnKey(0, Integer.MAX_VALUE, 100));
        Expect.due('h', vault.turnKey(1, 0, 100));
    }

    private static void turnByStranger() {
        TideVault vault = Vaults.withBoxes(0);
        Expect.throwing(ARGUMENT, () -> vault.turnKey(0, 2, 102));
        vault.turnKey(0, 0, 100);
        Expect.throwing(ARGUMENT, () -> vault.turnKey(0, 2, 102));
        Expect.due('h', vault.status(0));
    }

    /** Holders 0 to 5 with an alarm of ten for each of the last ones, who told a wrong code each. */
    private static TideVault alarmed(int tens) {
        TideVault vault = Vaults.withHolders(6);
        vault.addBox(0, 1, 0);
        for (int i = 0; i < tens; i++) {
            Vaults.tellWrong(vault, 5 - i, 1);
        }
        return vault;
    }

    private static void turnInAlarm() {
        TideVault below = alarmed(4);
        Expect.due(40, below.alarm());
        Expect.due('h', below.turnKey(0, 0, 100));
        TideVault vault = alarmed(5);
        Expect.due(50, vault.alarm());
        Expect.throwing(STATE, () -> vault.turnKey(0, 0, 100));
        Expect.throwing(STATE, () -> vault.turnKey(0, 0, 7));
        Expect.due(50, vault.alarm());
        vault.pass(4);
        Expect.due(50, vault.alarm());
        Expect.throwing(STATE, () -> vault.turnKey(0, 0, 100));
        vault.pass(1);
        Expect.due(49, vault.alarm());
        Expect.due('h', vault.turnKey(0, 0, 100));
    }

    private static void secondTurnInAlarm() {
        TideVault vault = alarmed(4);
        vault.turnKey(0, 0, 100);
        Vaults.tellWrong(vault, 1, 1);
        Expect.throwing(STATE, () -> vault.turnKey(0, 1, 101));
        Expect.due('h', vault.status(0));
        Expect.due(1, vault.attempts(1));
    }

    /** Holder 0 is locked out from 1 to 30, and the alarm is 49 at 30. */
    private static TideVault lockedAt30() {
        TideVault vault = Vaults.withBoxes(0);
        vault.pass(1);
        Vaults.tellWrong(vault, 0, 3);
        vault.pass(29);
        return vault;
    }

    private static void turnWhenLocked() {
        TideVault vault = lockedAt30();
        Expect.due(49, vault.alarm());
        Expect.due(1, vault.minutesLocked(0));
        Expect.throwing(STATE, () -> vault.turnKey(0, 0, 100));
        Expect.throwing(STATE, () -> vault.turnKey(0, 0, 7));
        Expect.due('h', vault.turnKey(0, 1, 101));
        Expect.throwing(STATE, () -> vault.turnKey(0, 0, 100));
        vault.pass(1);
        Expect.due('o', vault.turnKey(0, 0, 100));
    }

    private static void turnAtPending() {
        TideVault vault = Vaults.withBoxes(60);
        Expect.due('p', Vaults.turnBoth(vault, 0));
        Expect.throwing(STATE, () -> vault.turnKey(0, 0, 100));
        Expect.throwing(STATE, () -> vault.turnKey(0, 1, 101));
        Expect.due(60, vault.remainingDelay(0));
        vault.pass(200);
        Expect.throwing(STATE, () -> vault.turnKey(0, 0, 100));
    }

    private static void turnAtOpen() {
        TideVault vault = Vaults.withBoxes(0);
        Expect.due('o', Vaults.turnBoth(vault, 0));
        Expect.throwing(STATE, () -> vault.turnKey(0, 0, 100));
        vault.pass(9);
        Expect.throwing(STATE, () -> vault.turnKey(0, 1, 101));
        vault.pass(1);
        Expect.due('h', vault.turnKey(0, 1, 101));
    }

    private static void turnTwice() {
        TideVault vault = Vaults.withBoxes(0);
        vault.turnKey(0, 1, 101);
        Expect.throwing(STATE, () -> vault.turnKey(0, 1, 101));
        vault.pass(4);
        Expect.throwing(STATE, () -> vault.turnKey(0, 1, 101));
        vault.pass(1);
        Expect.due('h', vault.turnKey(0, 1, 101));
        Expect.due('o', vault.turnKey(0, 0, 100));
    }

    private static void turnWithWrongCode() {
        for (int code : WRONG_CODES) {
            TideVault vault = Vaults.withBoxes(0);
            Expect.throwing(CODE, () -> vault.turnKey(0, 0, code));
            Expect.due(1, vault.attempts(0));
            Expect.due(10, vault.alarm());
            Expect.due("f0@0", Vaults.events(vault));
            Expect.due(1f, vault.failureRate());
        }
    }

    private static void wrongCodeLeavesTheBox() {
        TideVault vault = Vaults.withBoxes(0);
        Expect.throwing(CODE, () -> vault.turnKey(0, 0, 101));
        Expect.due('c', vault.status(0));
        vault.turnKey(0, 0, 100);
        vault.pass(2);
        Expect.throwing(CODE, () -> vault.turnKey(0, 1, 100));
        Expect.due('h', vault.status(0));
        Expect.due(0, vault.firstHolder(0));
        vault.pass(2);
        Expect.due('h', vault.status(0));
        vault.pass(1);
        Expect.due('c', vault.status(0));
    }

    private static void statusAfterwards() {
        TideVault vault = Vaults.withBoxes(0, 1, 0);
        Expect.due('h', vault.turnKey(0, 1, 101));
        Expect.due('o', vault.turnKey(0, 0, 100));
        Expect.due('h', vault.turnKey(1, 0, 100));
        Expect.due('p', vault.turnKey(1, 1, 101));
        vault.pass(60);
        Expect.due('h', vault.turnKey(2, 0, 100));
        Expect.due('p', vault.turnKey(2, 1, 101));
    }

    private static void changeOfMissing() {
        TideVault empty = new TideVault();
        Expect.throwing(INDEX, () -> empty.changeCode(0, 0, 0));
        TideVault vault = Vaults.withHolders(2);
        Expect.throwing(INDEX, () -> vault.changeCode(-1, 100, 1));
        Expect.throwing(INDEX, () -> vault.changeCode(2, 102, 1));
        Expect.throwing(INDEX, () -> vault.changeCode(8, 0, 1));
        Expect.throwing(INDEX, () -> vault.changeCode(Integer.MIN_VALUE, 0, 1));
        Expect.throwing(INDEX, () -> vault.changeCode(Integer.MAX_VALUE, 0, 1));
    }

    private static void newCodeRange() {
        TideVault vault = Vaults.withHolders(1);
        Expect.throwing(ARGUMENT, () -> vault.changeCode(0, 100, -1));
        Expect.throwing(ARGUMENT, () -> vault.changeCode(0, 100, 1000));
        Expect.throwing(ARGUMENT, () -> vault.changeCode(0, 100, Integer.MIN_VALUE));
        Expect.throwing(ARGUMENT, () -> vault.changeCode(0, 100, Integer.MAX_VALUE));
        Expect.throwing(ArithmeticException.class, vault::failureRate);
        Expect.due(0, vault.changeCode(0, 100, 0));
        Expect.due(0, vault.changeCode(0, 0, 999));
        Expect.due(0, vault.changeCode(0, 999, 999));
        Expect.due(0f, vault.failureRate());
    }

    private static void changeWhenLocked() {
        TideVault vault = lockedAt30();
        Expect.throwing(STATE, () -> vault.changeCode(0, 100, 5));
        Expect.throwing(STATE, () -> vault.changeCode(0, 7, 5));
        Expect.due(0, vault.changeCode(1, 101, 5));
        Expect.due(0, vault.attempts(0));
        vault.pass(1);
        Expect.due(0, vault.changeCode(0, 100, 5));
    }

    private static void changeWithWrongCode() {
        for (int code : WRONG_CODES) {
            TideVault vault = Vaults.withHolders(1);
            Expect.throwing(CODE, () -> vault.changeCode(0, code, 5));
            Expect.due(1, vault.attempts(0));
            Expect.due(10, vault.alarm());
            Expect.due("f0@0", Vaults.events(vault));
            Expect.due(1f, vault.failureRate());
        }
    }

    private static void changeInAlarm() {
        TideVault vault = alarmed(5);
        Expect.due(0, vault.changeCode(0, 100, 7));
        Expect.throwing(CODE, () -> vault.changeCode(0, 100, 8));
        Expect.due(60, vault.alarm());
        Expect.due(1, vault.changeCode(0, 7, 8));
    }

    private static void attemptsBefore() {
        TideVault vault = Vaults.withHolders(1);
        Expect.due(0, vault.changeCode(0, 100, 100));
        Vaults.tellWrong(vault, 0, 1);
        Expect.due(1, vault.changeCode(0, 100, 100));
        Vaults.tellWrong(vault, 0, 2);
        Expect.due(2, vault.changeCode(0, 100, 100));
        Expect.due(0, vault.changeCode(0, 100, 100));
    }

    private static void wrongChangeKeepsTheCode() {
        TideVault vault = Vaults.withHolders(1);
        Expect.throwing(CODE, () -> vault.changeCode(0, 7, 8));
        Expect.throwing(CODE, () -> vault.changeCode(0, 8, 8));
        Expect.due(2, vault.changeCode(0, 100, 8));
        Expect.throwing(CODE, () -> vault.changeCode(0, 100, 9));
    }

    private static void rightCodeEndsAttempts() {
        TideVault vault = Vaults.withBoxes(0);
        Vaults.tellWrong(vault, 0, 2);
        vault.changeCode(0, 100, 100);
        Expect.due(0, vault.attempts(0));
        Vaults.tellWrong(vault, 0, 2);
        Expect.due(2, vault.attempts(0));
        vault.turnKey(0, 0, 100);
        Expect.due(0, vault.attempts(0));
        Expect.due(0, vault.minutesLocked(0));
        Expect.due(40, vault.alarm());
        Vaults.tellWrong(vault, 1, 1);
        vault.changeCode(0, 100, 100);
        Expect.due(1, vault.attempts(1));
    }

    private static void twoWrongCodes() {
        TideVault vault = Vaults.withHolders(1);
        Vaults.tellWrong(vault, 0, 1);
        Expect.due(1, vault.attempts(0));
        Expect.due(10, vault.alarm());
        Vaults.tellWrong(vault, 0, 1);
        Expect.due(2, vault.attempts(0));
        Expect.due(20, vault.alarm());
        Expect.due(0, vault.minutesLocked(0));
        Expect.due("f0@0 f0@0", Vaults.events(vault));
    }

    private static void threeWrongCodes() {
        TideVault vault = Vaults.withBoxes(0, 0);
        Expect.throwing(CODE, () -> vault.turnKey(0, 0, 7));
        vault.pass(4);
        Expect.throwing(CODE, () -> vault.changeCode(0, 7, 7));
        Expect.throwing(CODE, () -> vault.turnKey(1, 0, 7));
        Expect.due(0, vault.attempts(0));
        Expect.due(30, vault.minutesLocked(0));
        Expect.due(55, vault.alarm());
        Expect.due("f0@0 f0@4 f0@4 l0@4", Vaults.events(vault));
        Expect.due(1f, vault.failureRate());
    }

    private static void attemptsOfOthers() {
        TideVault vault = Vaults.withHolders(3);
        Vaults.tellWrong(vault, 0, 2);
        Vaults.tellWrong(vault, 1, 2);
        Expect.due(0, vault.minutesLocked(0));
        Expect.due(0, vault.minutesLocked(1));
        Vaults.tellWrong(vault, 1, 1);
        Expect.due(2, vault.attempts(0));
        Expect.due(0, vault.minutesLocked(0));
        Expect.due(30, vault.minutesLocked(1));
    }

    private static void lockedTimes() {
        TideVault vault = Vaults.withHolders(1);
        vault.pass(7);
        Vaults.tellWrong(vault, 0, 3);
        for (int time = 7; time < 37; time++) {
            Expect.throwing(STATE, () -> vault.changeCode(0, 100, 100));
            vault.pass(1);
        }
        Expect.due(37, vault.time());
        Expect.due(0, vault.changeCode(0, 100, 100));
    }

    private static void lockedAgain() {
        TideVault vault = Vaults.withHolders(1);
        Vaults.tellWrong(vault, 0, 3);
        vault.pass(30);
        Vaults.tellWrong(vault, 0, 2);
        Expect.due(2, vault.attempts(0));
        Expect.due(0, vault.minutesLocked(0));
        Vaults.tellWrong(vault, 0, 1);
        Expect.due(0, vault.attempts(0));
        Expect.due(30, vault.minutesLocked(0));
    }

    private static void alarmAtFirst() {
        TideVault vault = new TideVault();
        Expect.due(0, vault.alarm());
        vault.pass(240);
        Expect.due(0, vault.alarm());
    }

    private static void alarmOf99() {
        TideVault vault = Vaults.withHolders(4);
        Vaults.tellWrong(vault, 0, 3);
        Vaults.tellWrong(vault, 1, 1);
        Vaults.tellWrong(vault, 2, 1);
        Vaults.tellWrong(vault, 3, 1);
        vault.pass(30);
        Expect.due(79, vault.alarm());
        Vaults.tellWrong(vault, 1, 1);
        Expect.due(89, vault.alarm());
        Vaults.tellWrong(vault, 2, 1);
        Expect.due(99, vault.alarm());
        vault.pass(5);
        Expect.due(98, vault.alarm());
    }

    private static void alarmAbove99() {
        TideVault vault = Vaults.withHolders(4);
        Vaults.tellWrong(vault, 0, 3);
        Vaults.tellWrong(vault, 1, 1);
        Vaults.tellWrong(vault, 2, 1);
        Vaults.tellWrong(vault, 3, 1);
        vault.pass(25);
        Expect.due(80, vault.alarm());
        Vaults.tellWrong(vault, 1, 1);
        Expect.due(90, vault.alarm());
        Vaults.tellWrong(vault, 2, 1);
        Expect.due(99, vault.alarm());
        Vaults.tellWrong(vault, 3, 1);
        Expect.due(99, vault.alarm());
        vault.pass(5);
        Expect.due(98, vault.alarm());
        vault.pass(5);
        Expect.due(97, vault.alarm());
    }

    /** An alarm of 75 that drained for some minutes, before the third wrong code of holder 1. */
    private static TideVault beforeLock(int minutes) {
        TideVault vault = Vaults.withHolders(2);
        Vaults.tellWrong(vault, 0, 3);
        Vaults.tellWrong(vault, 1, 2);
        vault.pass(minutes);
        return vault;
    }

    private static void lockAlarmOf99() {
        TideVault vault = beforeLock(55);
        Expect.due(64, vault.alarm());
        Vaults.tellWrong(vault, 1, 1);
        Expect.due(99, vault.alarm());
        TideVault below = beforeLock(60);
        Vaults.tellWrong(below, 1, 1);
        Expect.due(98, below.alarm());
    }

    private static void lockAlarmAbove99() {
        TideVault vault = beforeLock(50);
        Expect.due(65, vault.alarm());
        Vaults.tellWrong(vault, 1, 1);
        Expect.due(99, vault.alarm());
        vault.pass(5);
        Expect.due(98, vault.alarm());
    }

    private static void alarmDrains() {
        TideVault vault = Vaults.withHolders(1);
        vault.pass(3);
        Vaults.tellWrong(vault, 0, 1);
        vault.pass(1);
        Expect.due(10, vault.alarm());
        vault.pass(1);
        Expect.due(9, vault.alarm());
        vault.pass(4);
        Expect.due(9, vault.alarm());
        vault.pass(1);
        Expect.due(8, vault.alarm());
        vault.pass(15);
        Expect.due(5, vault.alarm());
    }

    private static void alarmStaysAt0() {
        TideVault vault = Vaults.withHolders(1);
        Vaults.tellWrong(vault, 0, 1);
        vault.pass(49);
        Expect.due(1, vault.alarm());
        vault.pass(1);
        Expect.due(0, vault.alarm());
        vault.pass(5);
        Expect.due(0, vault.alarm());
        vault.pass(5);
        Vaults.tellWrong(vault, 0, 1);
        Expect.due(10, vault.alarm());
    }

    private static void attemptsOfMissing() {
        TideVault empty = new TideVault();
        Expect.throwing(INDEX, () -> empty.attempts(0));
        TideVault vault = Vaults.withHolders(3);
        Expect.throwing(INDEX, () -> vault.attempts(-1));
        Expect.throwing(INDEX, () -> vault.attempts(3));
        Expect.throwing(INDEX, () -> vault.attempts(8));
        Expect.throwing(INDEX, () -> vault.attempts(Integer.MIN_VALUE));
        Expect.throwing(INDEX, () -> vault.attempts(Integer.MAX_VALUE));
    }

    private static void attemptsRange() {
        TideVault vault = Vaults.withHolders(2);
        Expect.due(0, vault.attempts(1));
        Vaults.tellWrong(vault, 1, 1);
        Expect.due(1, vault.attempts(1));
        Vaults.tellWrong(vault, 1, 1);
        Expect.due(2, vault.attempts(1));
        Vaults.tellWrong(vault, 1, 1);
        Expect.due(0, vault.attempts(1));
        Expect.due(0, vault.attempts(0));
    }

    private static void lockOfMissing() {
        TideVault empty = new TideVault();
        Expect.throwing(INDEX, () -> empty.minutesLocked(0));
        TideVault vault = Vaults.withHolders(3);
        Expect.throwing(INDEX, () -> vault.minutesLocked(-1));
        Expect.throwing(INDEX, () -> vault.minutesLocked(3));
        Expect.throwing(INDEX, () -> vault.minutesLocked(8));
        Expect.throwing(INDEX, () -> vault.minutesLocked(Integer.MIN_VALUE));
        Expect.throwing(INDEX, () -> vault.minutesLocked(Integer.MAX_VALUE));
    }

    private static void lockRange() {
        TideVault vault = Vaults.withHolders(2);
        vault.pass(3);
        Vaults.tellWrong(vault, 0, 2);
        Expect.due(0, vault.minutesLocked(0));
        Vaults.tellWrong(vault, 0, 1);
        for (int left = 30; left > 0; left--) {
            Expect.due(left, vault.minutesLocked(0));
            vault.pass(1);
        }
        Expect.due(0, vault.minutesLocked(0));
        vault.pass(240);
        Expect.due(0, vault.minutesLocked(0));
        Expect.due(0, vault.minutesLocked(1));
    }

    private static void firstOfMissing() {
        TideVault empty = Vaults.withHolders(2);
        Expect.throwing(INDEX, () -> empty.firstHolder(0));
        TideVault vault = Vaults.withBoxes(0);
        vault.turnKey(0, 0, 100);
        Expect.throwing(INDEX, () -> vault.firstHolder(-1));
        Expect.throwing(INDEX, () -> vault.firstHolder(1));
        Expect.throwing(INDEX, () -> vault.firstHolder(10));
        Expect.throwing(INDEX, () -> vault.firstHolder(Integer.MIN_VALUE));
        Expect.throwing(INDEX, () -> vault.firstHolder(Integer.MAX_VALUE));
    }

    private static void firstOfOthers() {
        TideVault vault = Vaults.withBoxes(0, 60);
        Expect.throwing(ELEMENT, () -> vault.firstHolder(0));
        vault.turnKey(0, 1, 101);
        vault.pass(4);
        Expect.due(1, vault.firstHolder(0));
        vault.pass(1);
        Expect.throwing(ELEMENT, () -> vault.firstHolder(0));
        vault.turnKey(0, 0, 100);
        Expect.due(0, vault.firstHolder(0));
        vault.turnKey(0, 1, 101);
        Expect.throwing(ELEMENT, () -> vault.firstHolder(0));
        Vaults.turnBoth(vault, 1);
        Expect.throwing(ELEMENT, () -> vault.firstHolder(1));
    }

    private static void noCodeTold() {
        TideVault vault = Vaults.withBoxes(0);
        Expect.throwing(ArithmeticException.class, vault::failureRate);
        Expect.throwing(INDEX, () -> vault.turnKey(1, 0, 100));
        Expect.throwing(ARGUMENT, () -> vault.turnKey(0, 2, 102));
        Expect.throwing(ARGUMENT, () -> vault.changeCode(0, 100, 1000));
        Expect.throwing(CODE, () -> Vaults.run(vault, "turn 0 0=100;turn 0 1=7"));
        Expect.throwing(ArithmeticException.class, vault::failureRate);
        Vaults.tellWrong(vault, 0, 1);
        Expect.due(1f, vault.failureRate());
        vault.undo();
        Expect.throwing(ArithmeticException.class, vault::failureRate);
        Expect.due(1, Vaults.run(vault, "turn 0 0=100"));
        Expect.due(0f, vault.failureRate());
    }

    private static void allCodesWrong() {
        TideVault vault = Vaults.withBoxes(0);
        vault.turnKey(0, 0, 100);
        Expect.due(0f, vault.failureRate());
        vault.undo();
        Vaults.tellWrong(vault, 0, 1);
        Expect.due(1f, vault.failureRate());
        Vaults.tellWrong(vault, 0, 2);
        Expect.due(1f, vault.failureRate());
        Expect.throwing(STATE, () -> vault.changeCode(0, 7, 7));
        Expect.throwing(STATE, () -> vault.turnKey(0, 1, 101));
        Expect.due(1f, vault.failureRate());
        vault.changeCode(1, 101, 101);
        vault.changeCode(1, 101, 101);
        vault.changeCode(1, 101, 101);
        vault.changeCode(1, 101, 101);
        Expect.due(3f / 7f, vault.failureRate());
    }
}
