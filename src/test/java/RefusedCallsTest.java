import java.util.NoSuchElementException;
import java.util.function.Consumer;
import java.util.function.Supplier;

/** Every refused call: it changes nothing, and of several exceptions the first one is thrown. */
public final class RefusedCallsTest {
    private static final Class<IllegalArgumentException> ARGUMENT = IllegalArgumentException.class;
    private static final Class<IllegalStateException> STATE = IllegalStateException.class;
    private static final Class<IndexOutOfBoundsException> INDEX = IndexOutOfBoundsException.class;
    private static final Class<UnsupportedOperationException> CODE = UnsupportedOperationException.class;
    private static final Class<NoSuchElementException> ELEMENT = NoSuchElementException.class;

    private static final String NO_CHANGE = "T A method that throws an exception changes nothing, except that a wrong"
            + " code has the effects that are described below, and that run() empties the program buffer and records a"
            + " syntax error or a failed command.";
    private static final String FIRST =
            "T If several conditions for an exception hold, the exception that is listed first is thrown.";

    private static Supplier<TideVault> start;
    private static String untouched;

    public static void main(String[] args) {
        begin(RefusedCallsTest::full);
        Expect.holds(RefusedCallsTest::changesOfAFullVault, NO_CHANGE);
        Expect.holds(RefusedCallsTest::pearlsOfAFullVault, NO_CHANGE);
        Expect.holds(RefusedCallsTest::questionsToAFullVault, NO_CHANGE);
        Expect.holds(RefusedCallsTest::setUpInOrder, FIRST);
        Expect.holds(RefusedCallsTest::keysInOrder, FIRST);
        Expect.holds(RefusedCallsTest::pearlsInOrder, FIRST);
        Expect.holds(RefusedCallsTest::questionsInOrder, FIRST);
        begin(RefusedCallsTest::alarmed);
        Expect.holds(RefusedCallsTest::keysOfAnAlarmedVault, NO_CHANGE);
        Expect.holds(RefusedCallsTest::keysInAlarmInOrder, FIRST);
        begin(TideVault::new);
        Expect.holds(RefusedCallsTest::callsOfANewVault, NO_CHANGE);
        Expect.holds(RefusedCallsTest::wrongCodeChangesItsPart, NO_CHANGE);
        Expect.holds(RefusedCallsTest::programsKeepTheirRecords, NO_CHANGE);
        Expect.holds(RefusedCallsTest::syntaxBeforeFailure, FIRST);
        Expect.finish();
    }

    private static void begin(Supplier<TideVault> from) {
        start = from;
        untouched = Vaults.held(from.get());
    }

    /** The call is refused on a vault as it was at the start, which holds all it held before. */
    private static void refused(Class<? extends RuntimeException> want, Consumer<TideVault> call) {
        TideVault vault = start.get();
        Expect.throwing(want, () -> call.accept(vault));
        Expect.due(untouched, Vaults.held(vault));
    }

    /** 8 holders and 10 boxes: 0 open and full, 1 open, 2 pending, 3 half open by 2, the others closed. */
    private static TideVault full() {
        TideVault vault = Vaults.withHolders(8);
        for (int delay : new int[] {0, 0, 60}) {
            vault.addBox(0, 1, delay);
        }
        vault.addBox(2, 3, 0);
        for (int i = 4; i < 10; i++) {
            vault.addBox(4, 5, 9);
        }
        vault.pass(3);
        vault.save();
        Vaults.turnBoth(vault, 0);
        Vaults.turnBoth(vault, 1);
        for (int i = 1; i <= 5; i++) {
            vault.deposit(0, 10 * i);
        }
        for (int i = 0; i < 6; i++) {
            vault.deposit(1, 9);
            vault.withdraw(1);
        }
        Vaults.turnBoth(vault, 2);
        vault.turnKey(3, 2, 102);
        vault.writeBox(0);
        Vaults.type(vault, "code 0 100>001;turn 3 3=103;put 3=9;wait 5;wait 002;wait 020");
        return vault;
    }

    /** An alarm of 55, with the holder 0 locked out, and the boxes closed and half open by 2. */
    private static TideVault alarmed() {
        TideVault vault = Vaults.withBoxes(0);
        vault.addBox(2, 0, 0);
        vault.turnKey(1, 2, 102);
        vault.pass(1);
        Vaults.tellWrong(vault, 0, 3);
        Vaults.type(vault, "wait 29");
        return vault;
    }

    private static void changesOfAFullVault() {
        refused(ARGUMENT, v -> v.addHolder(-1));
        refused(ARGUMENT, v -> v.addHolder(1000));
        refused(STATE, v -> v.addHolder(5));
        refused(INDEX, v -> v.addBox(-1, 0, 0));
        refused(INDEX, v -> v.addBox(0, 8, 0));
        refused(ARGUMENT, v -> v.addBox(7, 7, 0));
        refused(ARGUMENT, v -> v.addBox(0, 1, 61));
        refused(STATE, v -> v.addBox(0, 1, 0));
        refused(ARGUMENT, v -> v.setTide(59, 20));
        refused(ARGUMENT, v -> v.setTide(100, 101));
        refused(INDEX, v -> v.turnKey(10, 0, 100));
        refused(INDEX, v -> v.turnKey(0, 8, 100));
        refused(ARGUMENT, v -> v.turnKey(3, 0, 100));
        refused(STATE, v -> v.turnKey(0, 0, 100));
        refused(STATE, v -> v.turnKey(2, 0, 100));
        refused(STATE, v -> v.turnKey(3, 2, 102));
        refused(INDEX, v -> v.changeCode(8, 0, 0));
        refused(ARGUMENT, v -> v.changeCode(0, 100, 1000));
        refused(ARGUMENT, v -> v.pass(0));
        refused(ARGUMENT, v -> v.pass(241));
        refused(STATE, v -> v.type('x'));
    }

    private static void pearlsOfAFullVault() {
        refused(INDEX, v -> v.deposit(10, 5));
        refused(ARGUMENT, v -> v.deposit(1, 0));
        refused(ARGUMENT, v -> v.deposit(1, 100));
        refused(STATE, v -> v.deposit(0, 5));
        refused(STATE, v -> v.deposit(2, 5));
        refused(STATE, v -> v.deposit(3, 5));
        refused(STATE, v -> v.deposit(4, 5));
        refused(INDEX, v -> v.withdraw(10));
        refused(STATE, v -> v.withdraw(2));
        refused(STATE, v -> v.withdraw(3));
        refused(STATE, v -> v.withdraw(4));
        refused(ELEMENT, v -> v.withdraw(1));
        refused(INDEX, v -> v.close(10));
        refused(STATE, v -> v.close(4));
    }

    private static void questionsToAFullVault() {
        refused(ARGUMENT, v -> v.lowMinutes(1001));
        refused(ARGUMENT, v -> v.lowMinutesByCounting(-1));
        refused(INDEX, v -> v.attempts(8));
        refused(INDEX, v -> v.minutesLocked(8));
        refused(INDEX, v -> v.boxesOf(8));
        refused(INDEX, v -> v.otherHolder(10, 0));
        refused(ARGUMENT, v -> v.otherHolder(0, 2));
        refused(INDEX, v -> v.status(10));
        refused(INDEX, v -> v.firstHolder(10));
        refused(ELEMENT, v -> v.firstHolder(2));
        refused(INDEX, v -> v.remainingDelay(10));
        refused(ELEMENT, v -> v.remainingDelay(3));
        refused(INDEX, v -> v.minutesUntilOpen(10));
        refused(ELEMENT, v -> v.minutesUntilOpen(3));
        refused(INDEX, v -> v.minutesUntilOpenBySimulation(10));
        refused(ELEMENT, v -> v.minutesUntilOpenBySimulation(0));
        refused(INDEX, v -> v.pearls(10));
        refused(INDEX, v -> v.pearl(10, 0));
        refused(ELEMENT, v -> v.pearl(0, 5));
        refused(ELEMENT, v -> v.boxByValue(10));
        refused(ELEMENT, v -> v.eventKind(12));
        refused(ELEMENT, v -> v.eventTime(12));
        refused(ELEMENT, v -> v.eventNumber(12));
        refused(INDEX, v -> v.writeBox(10));
        refused(INDEX, v -> v.charAt(17));
        refused(ELEMENT, TideVault::errorPosition);
        refused(ELEMENT, TideVault::failedCommand);
        refused(ELEMENT, TideVault::wasWrongCode);
    }

    private static void setUpInOrder() {
        refused(ARGUMENT, v -> v.addHolder(1000));
        refused(INDEX, v -> v.addBox(8, 8, 61));
        refused(INDEX, v -> v.addBox(0, -1, -1));
        refused(ARGUMENT, v -> v.addBox(0, 0, 61));
        refused(ARGUMENT, v -> v.addBox(0, 1, -1));
    }

    private static void keysInOrder() {
        refused(INDEX, v -> v.turnKey(10, 8, 7));
        refused(INDEX, v -> v.turnKey(0, -1, 7));
        refused(INDEX, v -> v.turnKey(-1, 2, 7));
        refused(ARGUMENT, v -> v.turnKey(0, 2, 7));
        refused(ARGUMENT, v -> v.turnKey(2, 2, 102));
        refused(ARGUMENT, v -> v.turnKey(3, 0, 7));
        refused(STATE, v -> v.turnKey(0, 0, 7));
        refused(STATE, v -> v.turnKey(2, 1, 7));
        refused(STATE, v -> v.turnKey(3, 2, 7));
        refused(INDEX, v -> v.changeCode(8, 7, 1000));
        refused(ARGUMENT, v -> v.changeCode(0, 7, 1000));
    }

    private static void pearlsInOrder() {
        refused(INDEX, v -> v.deposit(10, 0));
        refused(ARGUMENT, v -> v.deposit(0, 0));
        refused(ARGUMENT, v -> v.deposit(0, 100));
        refused(ARGUMENT, v -> v.deposit(4, 100));
        refused(STATE, v -> v.withdraw(9));
    }

    private static void questionsInOrder() {
        refused(INDEX, v -> v.otherHolder(10, 8));
        refused(INDEX, v -> v.pearl(10, 9));
        refused(INDEX, v -> v.pearl(-1, -1));
        refused(INDEX, v -> v.firstHolder(-1));
        refused(INDEX, v -> v.remainingDelay(-1));
    }

    private static void keysOfAnAlarmedVault() {
        refused(STATE, v -> v.turnKey(0, 1, 101));
        refused(STATE, v -> v.turnKey(0, 0, 100));
        refused(STATE, v -> v.turnKey(1, 0, 100));
        refused(STATE, v -> v.changeCode(0, 100, 5));
        refused(STATE, TideVault::restore);
    }

    private static void keysInAlarmInOrder() {
        refused(INDEX, v -> v.turnKey(2, 0, 7));
        refused(INDEX, v -> v.turnKey(0, 3, 7));
        refused(ARGUMENT, v -> v.turnKey(0, 2, 7));
        refused(ARGUMENT, v -> v.turnKey(1, 1, 101));
        refused(STATE, v -> v.turnKey(0, 1, 7));
        refused(STATE, v -> v.turnKey(0, 0, 7));
        refused(STATE, v -> v.changeCode(0, 7, 5));
        refused(ARGUMENT, v -> v.changeCode(0, 7, 1000));
        refused(ARGUMENT, v -> v.changeCode(0, 100, -1));
        refused(INDEX, v -> v.changeCode(3, 100, -1));
    }

    private static void callsOfANewVault() {
        refused(STATE, TideVault::undo);
        refused(STATE, TideVault::restore);
        refused(ArithmeticException.class, TideVault::meanValue);
        refused(ArithmeticException.class, TideVault::failureRate);
        refused(ELEMENT, v -> v.boxByValue(0));
        refused(ELEMENT, v -> v.eventKind(0));
        refused(INDEX, v -> v.charAt(0));
        refused(INDEX, v -> v.writeBox(0));
        refused(INDEX, v -> v.addBox(0, 1, 0));
        refused(INDEX, v -> v.turnKey(0, 0, 0));
    }

    private static void wrongCodeChangesItsPart() {
        TideVault vault = Vaults.withBoxes(0);
        vault.changeCode(0, 100, 100);
        Expect.due("0 true 237 0 true 0 0 throws.ArithmeticException 0.0 [] h0,0,1 h0,0,1 h0,0,0 c",
                Vaults.seen(vault));
        Expect.throwing(CODE, () -> vault.turnKey(0, 1, 7));
        Expect.due("0 true 237 10 true 0 0 throws.ArithmeticException 0.5 [f1@0] h0,0,1 h1,0,1 h0,0,0 c",
                Vaults.seen(vault));
        Expect.throwing(CODE, () -> vault.changeCode(1, 7, 8));
        Expect.due("0 true 237 20 true 0 0 throws.ArithmeticException 0.6666667 [f1@0 f1@0] h0,0,1 h2,0,1 h0,0,0 c",
                Vaults.seen(vault));
        Expect.throwing(CODE, () -> vault.turnKey(0, 1, -1));
        Expect.due("0 true 237 55 true 0 0 throws.ArithmeticException 0.75 [f1@0 f1@0 f1@0 l1@0]"
                + " h0,0,1 h0,30,1 h0,0,0 c", Vaults.seen(vault));
    }

    private static void programsKeepTheirRecords() {
        TideVault vault = Vaults.withBoxes(0);
        String before = Vaults.seen(vault);
        Expect.throwing(ARGUMENT, () -> Vaults.run(vault, "wait;"));
        Expect.throwing(CODE, () -> Vaults.run(vault, "wait;turn 0 0=7"));
        Expect.due("5 1 true", Vaults.records(vault));
        Expect.due(before, Vaults.seen(vault));
        Expect.due(1, vault.type('w'));
    }

    private static void syntaxBeforeFailure() {
        TideVault vault = Vaults.withBoxes(0);
        Expect.throwing(ARGUMENT, () -> Vaults.run(vault, "take 0;wait 0;wai"));
        Expect.due("17 throws.NoSuchElementException throws.NoSuchElementException", Vaults.records(vault));
    }
}
