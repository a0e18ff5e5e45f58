import java.util.NoSuchElementException;

/** Promises 5, 6, 15, 23 and 33: keys, codes, and what a wrong code does. */
public final class KeysTest {
    private static final Class<IllegalArgumentException> ARGUMENT = IllegalArgumentException.class;
    private static final Class<IllegalStateException> STATE = IllegalStateException.class;
    private static final Class<IndexOutOfBoundsException> INDEX = IndexOutOfBoundsException.class;
    private static final Class<UnsupportedOperationException> CODE = UnsupportedOperationException.class;
    private static final Class<NoSuchElementException> ELEMENT = NoSuchElementException.class;

    public static void main(String[] args) {
        turnKey();
        orderOfTurnKey();
        wrongCodeAtTheBox();
        halfOpenTimes();
        changeCode();
        alarm();
        firstHolder();
        failureRate();
        Expect.finish();
    }

    private static void turnKey() {
        Expect.promise(5, "turnKey");
        TideVault vault = Vaults.withBoxes(0, 7, 0);
        Expect.due('h', vault.turnKey(0, 1, 101));
        Expect.due('o', vault.turnKey(0, 0, 100));
        Expect.due("o0@0", Vaults.events(vault));
        Expect.due('h', vault.turnKey(1, 0, 100));
        Expect.due('p', vault.turnKey(1, 1, 101));
        Expect.due(7, vault.remainingDelay(1));
        vault.pass(60);
        Expect.due(false, vault.isLowTide());
        vault.turnKey(2, 0, 100);
        Expect.due('p', vault.turnKey(2, 1, 101));
        Expect.due(0, vault.remainingDelay(2));
        Expect.due(1, vault.pass(180));
        Expect.due('o', vault.status(2));
        Expect.due("o2@240", Vaults.events(vault).substring(Vaults.events(vault).lastIndexOf(' ') + 1));
    }

    private static void orderOfTurnKey() {
        Expect.promise(5, "turnKey's exceptions in their order");
        TideVault vault = Vaults.withBoxes(0, 9);
        Expect.throwing(INDEX, () -> vault.turnKey(2, 0, 100));
        Expect.throwing(INDEX, () -> vault.turnKey(-1, 0, 100));
        Expect.throwing(INDEX, () -> vault.turnKey(0, 3, 100));
        Expect.throwing(INDEX, () -> vault.turnKey(0, -1, 100));
        Expect.throwing(ARGUMENT, () -> vault.turnKey(0, 2, 102));
        Expect.throwing(ARGUMENT, () -> vault.turnKey(0, 2, 5));
        vault.turnKey(0, 0, 100);
        Expect.throwing(STATE, () -> vault.turnKey(0, 0, 100));
        Expect.throwing(STATE, () -> vault.turnKey(0, 0, 5));
        vault.turnKey(0, 1, 101);
        Expect.throwing(STATE, () -> vault.turnKey(0, 0, 5));
        Expect.throwing(ARGUMENT, () -> vault.turnKey(0, 2, 5));
        Vaults.turnBoth(vault, 1);
        Expect.throwing(STATE, () -> vault.turnKey(1, 1, 5));
        Expect.due(0, vault.alarm());
        Expect.due(0, vault.attempts(0));
        Expect.due(0f, vault.failureRate());
        Expect.due("o0@0", Vaults.events(vault));
    }

    private static void wrongCodeAtTheBox() {
        Expect.promise(5, "turnKey with a wrong code");
        TideVault vault = Vaults.withBoxes(0, 0);
        Expect.throwing(CODE, () -> vault.turnKey(0, 0, 101));
        Expect.throwing(CODE, () -> vault.turnKey(0, 0, -100));
        Expect.due('c', vault.status(0));
        Expect.due(2, vault.attempts(0));
        Expect.due(20, vault.alarm());
        Expect.due('h', vault.turnKey(0, 0, 100));
        Expect.due(0, vault.attempts(0));
        Expect.throwing(CODE, () -> vault.turnKey(0, 1, 1000));
        Expect.throwing(CODE, () -> vault.turnKey(0, 1, 1));
        Expect.due(40, vault.alarm());
        Expect.due('h', vault.status(0));
        Expect.throwing(CODE, () -> vault.turnKey(0, 1, 1));
        Expect.due(75, vault.alarm());
        Expect.due("f0@0 f0@0 f1@0 f1@0 f1@0 l1@0", Vaults.events(vault));
        Expect.throwing(STATE, () -> vault.turnKey(1, 0, 100));
        Vaults.passAll(vault, 125);
        Expect.due(50, vault.alarm());
        Expect.throwing(STATE, () -> vault.turnKey(1, 0, 100));
        vault.pass(5);
        Expect.due(49, vault.alarm());
        Expect.due('h', vault.turnKey(1, 0, 100));
    }

    private static void halfOpenTimes() {
        Expect.promise(5, "a half-open box closes after 5 minutes");
        TideVault vault = Vaults.withBoxes(0, 0);
        vault.pass(2);
        vault.turnKey(0, 0, 100);
        vault.pass(4);
        Expect.due('h', vault.status(0));
        vault.turnKey(1, 0, 100);
        vault.pass(1);
        Expect.due('c', vault.status(0));
        Expect.due('h', vault.status(1));
        Expect.due('h', vault.turnKey(0, 1, 101));
        Expect.due(1, vault.firstHolder(0));
        Expect.due(0, vault.events());
    }

    private static void changeCode() {
        Expect.promise(6, "changeCode");
        TideVault vault = Vaults.withBoxes(0);
        Expect.throwing(INDEX, () -> vault.changeCode(-1, 100, 1));
        Expect.throwing(INDEX, () -> vault.changeCode(3, 100, 1000));
        Expect.throwing(ARGUMENT, () -> vault.changeCode(0, 100, -1));
        Expect.throwing(ARGUMENT, () -> vault.changeCode(0, 5, 1000));
        Expect.due(0, vault.alarm());
        Expect.due(0, vault.changeCode(0, 100, 0));
        Expect.throwing(CODE, () -> vault.changeCode(0, 100, 1));
        Expect.throwing(CODE, () -> vault.changeCode(0, 100, 1));
        Expect.due(20, vault.alarm());
        Expect.due(2, vault.changeCode(0, 0, 999));
        Expect.due(0, vault.attempts(0));
        Expect.due('h', vault.turnKey(0, 0, 999));
        Vaults.tellWrong(vault, 0, 3);
        Expect.due(75, vault.alarm());
        Expect.throwing(STATE, () -> vault.changeCode(0, 999, 1));
        Expect.throwing(STATE, () -> vault.changeCode(0, 1, 1));
        Expect.throwing(ARGUMENT, () -> vault.changeCode(0, 1, 1000));
        Expect.due(0, vault.changeCode(1, 101, 7));
        vault.pass(29);
        Expect.throwing(STATE, () -> vault.changeCode(0, 999, 1));
        vault.pass(1);
        Expect.due(0, vault.changeCode(0, 999, 1));
    }

    private static void alarm() {
        Expect.promise(15, "alarm");
        TideVault vault = Vaults.withHolders(3);
        Expect.due(0, vault.alarm());
        Vaults.tellWrong(vault, 0, 3);
        Expect.due(55, vault.alarm());
        Vaults.tellWrong(vault, 1, 2);
        Expect.due(75, vault.alarm());
        Vaults.tellWrong(vault, 1, 1);
        Expect.due(99, vault.alarm());
        Vaults.tellWrong(vault, 2, 1);
        Expect.due(99, vault.alarm());
        vault.pass(4);
        Expect.due(99, vault.alarm());
        vault.pass(1);
        Expect.due(98, vault.alarm());
        vault.pass(10);
        Expect.due(96, vault.alarm());
        Vaults.passAll(vault, 480);
        Expect.due(0, vault.alarm());
        vault.pass(5);
        Expect.due(0, vault.alarm());
    }

    private static void firstHolder() {
        Expect.promise(23, "firstHolder");
        TideVault vault = Vaults.withBoxes(0, 0);
        Expect.throwing(INDEX, () -> vault.firstHolder(2));
        Expect.throwing(INDEX, () -> vault.firstHolder(-1));
        Expect.throwing(ELEMENT, () -> vault.firstHolder(0));
        vault.turnKey(0, 1, 101);
        vault.turnKey(1, 0, 100);
        Expect.due(1, vault.firstHolder(0));
        Expect.due(0, vault.firstHolder(1));
        vault.turnKey(0, 0, 100);
        Expect.throwing(ELEMENT, () -> vault.firstHolder(0));
        vault.close(1);
        Expect.throwing(ELEMENT, () -> vault.firstHolder(1));
    }

    private static void failureRate() {
        Expect.promise(33, "failureRate");
        TideVault vault = Vaults.withBoxes(0);
        Expect.throwing(ArithmeticException.class, vault::failureRate);
        vault.turnKey(0, 0, 100);
        Expect.due(0f, vault.failureRate());
        Vaults.tellWrong(vault, 1, 1);
        Expect.due(0.5f, vault.failureRate());
        vault.changeCode(2, 102, 1);
        Expect.due(1f / 3f, vault.failureRate());
        Expect.throwing(CODE, () -> vault.turnKey(0, 1, 5));
        Expect.due(0.5f, vault.failureRate());
        Vaults.tellWrong(vault, 1, 1);
        Expect.throwing(STATE, () -> vault.changeCode(1, 5, 5));
        Expect.due(3f / 5f, vault.failureRate());
    }
}
