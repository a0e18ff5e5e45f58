import java.util.NoSuchElementException;

/** Boundaries of times, low minutes and opening times: promises 11 to 14, 25, 26 and 38. */
public final class TimeEdgesTest {
    private static final Class<IllegalArgumentException> ARGUMENT = IllegalArgumentException.class;
    private static final Class<IndexOutOfBoundsException> INDEX = IndexOutOfBoundsException.class;
    private static final Class<NoSuchElementException> ELEMENT = NoSuchElementException.class;

    public static void main(String[] args) {
        times();
        openings();
        consistency();
        Expect.finish();
    }

    private static void times() {
        Expect.holds(TimeEdgesTest::timeGrows, "P11 Returns the number of minutes that have passed.");
        Expect.holds(TimeEdgesTest::lowNow, "P12 Returns whether the tide is low now.");
        Expect.holds(TimeEdgesTest::lowMinutesRange, "P13 - `minutes`: the number of times, 0 to 1000",
                "P13 Throws `IllegalArgumentException` if the number is out of range");
        Expect.holds(TimeEdgesTest::lowMinutesFromNow,
                "P13 The next times are the present one and those that follow it.");
        Expect.holds(TimeEdgesTest::lowMinutesAlwaysLow, "P13 Returns the number of times at which the tide is low.");
        Expect.holds(TimeEdgesTest::lowMinutesRoundDown, "T All integer divisions are rounded down.");
        Expect.holds(TimeEdgesTest::countingRange, "P14 - `minutes`: the number of times, 0 to 1000",
                "P14 Throws `IllegalArgumentException` if the number is out of range");
        Expect.holds(TimeEdgesTest::countingFromNow, "P14 Returns the same number, by counting.");
    }

    private static void openings() {
        Expect.holds(TimeEdgesTest::openingOfMissing, "P25 Throws `IndexOutOfBoundsException` if the box does not exist",
                "P26 Throws `IndexOutOfBoundsException` if the box does not exist");
        Expect.holds(TimeEdgesTest::openingOfClosed, "P25 Throws `NoSuchElementException` if the box is not pending",
                "P26 Throws `NoSuchElementException` if the box is not pending");
        Expect.holds(TimeEdgesTest::openingOfHalfOpen,
                "P25 Throws `NoSuchElementException` if the box is not pending",
                "P26 Throws `NoSuchElementException` if the box is not pending");
        Expect.holds(TimeEdgesTest::openingOfOpen, "P25 Throws `NoSuchElementException` if the box is not pending",
                "P26 Throws `NoSuchElementException` if the box is not pending");
        Expect.holds(TimeEdgesTest::shortestWait, "P25 Returns after how many minutes a pending box will open",
                "P26 Returns the same number, by letting minutes pass on a copy of the vault.");
        Expect.holds(TimeEdgesTest::longestWait, "P25 Returns after how many minutes a pending box will open",
                "P26 Returns the same number, by letting minutes pass on a copy of the vault.");
        Expect.holds(TimeEdgesTest::waitOverTheEndOfTheTide,
                "P25 Returns after how many minutes a pending box will open",
                "P26 Returns the same number, by letting minutes pass on a copy of the vault.");
        Expect.holds(TimeEdgesTest::waitWhenAlwaysLow, "P25 Returns after how many minutes a pending box will open",
                "P26 Returns the same number, by letting minutes pass on a copy of the vault.");
        Expect.holds(TimeEdgesTest::waitLateInTime, "P25 Returns after how many minutes a pending box will open",
                "P26 Returns the same number, by letting minutes pass on a copy of the vault.");
        Expect.holds(TimeEdgesTest::simulationChangesNothing,
                "P26 Returns the same number, by letting minutes pass on a copy of the vault.");
    }

    private static void consistency() {
        Expect.holds(TimeEdgesTest::emptyIsConsistent, "P38 Returns true if the invariants hold.");
        Expect.holds(TimeEdgesTest::fullIsConsistent, "P38 Checks the invariants: both ways of computing opening times"
                + " agree for all pending boxes");
        Expect.holds(TimeEdgesTest::consistentAfterSetTide, "P38 Checks the invariants: both ways of computing opening"
                + " times agree for all pending boxes");
        Expect.holds(TimeEdgesTest::consistentAfterUndo, "P38 both sums of values agree.");
    }

    private static void timeGrows() {
        TideVault vault = new TideVault();
        Expect.due(0, vault.time());
        vault.pass(1);
        Expect.due(1, vault.time());
        vault.pass(240);
        Expect.due(241, vault.time());
    }

    private static void lowNow() {
        TideVault vault = new TideVault();
        vault.setTide(60, 10);
        vault.pass(10);
        Expect.due(false, vault.isLowTide());
        vault.setTide(60, 11);
        Expect.due(true, vault.isLowTide());
        vault.undo();
        Expect.due(false, vault.isLowTide());
    }

    private static void lowMinutesRange() {
        TideVault vault = new TideVault();
        Expect.throwing(ARGUMENT, () -> vault.lowMinutes(-1));
        Expect.throwing(ARGUMENT, () -> vault.lowMinutes(1001));
        Expect.throwing(ARGUMENT, () -> vault.lowMinutes(Integer.MIN_VALUE));
        Expect.throwing(ARGUMENT, () -> vault.lowMinutes(Integer.MAX_VALUE));
        Expect.due(0, vault.lowMinutes(0));
        Expect.due(279, vault.lowMinutes(999));
        Expect.due(280, vault.lowMinutes(1000));
    }

    private static void countingRange() {
        TideVault vault = new TideVault();
        Expect.throwing(ARGUMENT, () -> vault.lowMinutesByCounting(-1));
        Expect.throwing(ARGUMENT, () -> vault.lowMinutesByCounting(1001));
        Expect.throwing(ARGUMENT, () -> vault.lowMinutesByCounting(Integer.MIN_VALUE));
        Expect.throwing(ARGUMENT, () -> vault.lowMinutesByCounting(Integer.MAX_VALUE));
        Expect.due(0, vault.lowMinutesByCounting(0));
        Expect.due(279, vault.lowMinutesByCounting(999));
        Expect.due(280, vault.lowMinutesByCounting(1000));
    }

    private static void lowMinutesFromNow() {
        TideVault vault = new TideVault();
        Expect.due(1, vault.lowMinutes(1));
        Expect.due(60, vault.lowMinutes(60));
        Expect.due(60, vault.lowMinutes(61));
        Expect.due(60, vault.lowMinutes(240));
        Expect.due(61, vault.lowMinutes(241));
        vault.pass(59);
        Expect.due(1, vault.lowMinutes(1));
        Expect.due(1, vault.lowMinutes(2));
        vault.pass(1);
        Expect.due(0, vault.lowMinutes(1));
        Expect.due(0, vault.lowMinutes(180));
        Expect.due(1, vault.lowMinutes(181));
        vault.pass(179);
        Expect.due(0, vault.lowMinutes(1));
        Expect.due(1, vault.lowMinutes(2));
        vault.pass(1);
        Expect.due(1, vault.lowMinutes(1));
    }

    private static void countingFromNow() {
        TideVault vault = new TideVault();
        Expect.due(1, vault.lowMinutesByCounting(1));
        Expect.due(60, vault.lowMinutesByCounting(61));
        Expect.due(61, vault.lowMinutesByCounting(241));
        vault.pass(59);
        Expect.due(1, vault.lowMinutesByCounting(1));
        Expect.due(1, vault.lowMinutesByCounting(2));
        vault.pass(1);
        Expect.due(0, vault.lowMinutesByCounting(1));
        Expect.due(0, vault.lowMinutesByCounting(180));
        Expect.due(1, vault.lowMinutesByCounting(181));
    }

    private static void lowMinutesAlwaysLow() {
        TideVault vault = new TideVault();
        vault.setTide(61, 61);
        vault.pass(60);
        for (int minutes : new int[] {0, 1, 2, 61, 62, 1000}) {
            Expect.due(minutes, vault.lowMinutes(minutes));
            Expect.due(minutes, vault.lowMinutesByCounting(minutes));
        }
    }

    private static void lowMinutesRoundDown() {
        TideVault vault = new TideVault();
        vault.setTide(60, 10);
        vault.pass(59);
        for (int time = 59; time <= 71; time++) {
            for (int minutes = 0; minutes <= 130; minutes += 13) {
                Expect.due(vault.lowMinutesByCounting(minutes), vault.lowMinutes(minutes));
            }
            Expect.due(10, vault.lowMinutes(60));
            vault.pass(1);
        }
    }

    private static void openingOfMissing() {
        TideVault empty = Vaults.withHolders(2);
        TideVault vault = Vaults.withBoxes(5);
        Vaults.turnBoth(vault, 0);
        Expect.throwing(INDEX, () -> empty.minutesUntilOpen(0));
        Expect.throwing(INDEX, () -> empty.minutesUntilOpenBySimulation(0));
        for (int box : new int[] {-1, 1, 10, Integer.MIN_VALUE, Integer.MAX_VALUE}) {
            Expect.throwing(INDEX, () -> vault.minutesUntilOpen(box));
            Expect.throwing(INDEX, () -> vault.minutesUntilOpenBySimulation(box));
        }
    }

    private static void notPending(TideVault vault) {
        Expect.throwing(ELEMENT, () -> vault.minutesUntilOpen(0));
        Expect.throwing(ELEMENT, () -> vault.minutesUntilOpenBySimulation(0));
    }

    private static void openingOfClosed() {
        TideVault vault = Vaults.withBoxes(5);
        notPending(vault);
        Vaults.turnBoth(vault, 0);
        vault.close(0);
        notPending(vault);
    }

    private static void openingOfHalfOpen() {
        TideVault vault = Vaults.withBoxes(5);
        vault.turnKey(0, 0, 100);
        notPending(vault);
    }

    private static void openingOfOpen() {
        TideVault vault = Vaults.withBoxes(0);
        Vaults.turnBoth(vault, 0);
        notPending(vault);
    }

    private static void waits(int minutes, TideVault vault, int box) {
        Expect.due(minutes, vault.minutesUntilOpen(box));
        Expect.due(minutes, vault.minutesUntilOpenBySimulation(box));
    }

    private static void shortestWait() {
        TideVault vault = Vaults.withBoxes(1, 1, 0, 0);
        Vaults.turnBoth(vault, 0);
        waits(1, vault, 0);
        vault.pass(58);
        Vaults.turnBoth(vault, 1);
        waits(1, vault, 1);
        vault.pass(181);
        Expect.due(239, vault.time());
        Vaults.turnBoth(vault, 2);
        waits(1, vault, 2);
        Expect.due(1, vault.pass(1));
    }

    private static void longestWait() {
        TideVault vault = Vaults.withBoxes(60, 60);
        vault.setTide(480, 10);
        vault.pass(9);
        Vaults.turnBoth(vault, 0);
        waits(2880, vault, 0);
        vault.pass(1);
        Vaults.turnBoth(vault, 1);
        waits(2879, vault, 0);
        waits(3350, vault, 1);
        vault.close(0);
        Vaults.passAll(vault, 3349);
        waits(1, vault, 1);
        Expect.due(1, vault.pass(1));
    }

    private static void waitOverTheEndOfTheTide() {
        TideVault vault = Vaults.withBoxes(0, 1, 2, 3);
        vault.pass(58);
        Vaults.turnBoth(vault, 1);
        Vaults.turnBoth(vault, 2);
        Vaults.turnBoth(vault, 3);
        waits(1, vault, 1);
        waits(182, vault, 2);
        waits(183, vault, 3);
        vault.pass(1);
        waits(181, vault, 2);
        waits(182, vault, 3);
        vault.pass(1);
        Vaults.turnBoth(vault, 0);
        waits(180, vault, 0);
        waits(180, vault, 2);
        waits(181, vault, 3);
    }

    private static void waitWhenAlwaysLow() {
        TideVault vault = Vaults.withBoxes(60, 0);
        vault.setTide(61, 61);
        vault.pass(59);
        Vaults.turnBoth(vault, 0);
        waits(60, vault, 0);
        vault.pass(59);
        waits(1, vault, 0);
        Expect.due(1, vault.pass(1));
    }

    private static void waitLateInTime() {
        TideVault vault = Vaults.withBoxes(60);
        vault.setTide(480, 10);
        Vaults.passAll(vault, 400 * 240);
        vault.pass(10);
        Vaults.turnBoth(vault, 0);
        waits(3350, vault, 0);
    }

    private static void simulationChangesNothing() {
        TideVault vault = Vaults.withBoxes(60, 0, 5);
        vault.turnKey(2, 0, 100);
        Vaults.turnBoth(vault, 1);
        Vaults.turnBoth(vault, 0);
        vault.deposit(1, 50);
        String before = Vaults.seen(vault);
        Expect.due(240, vault.minutesUntilOpenBySimulation(0));
        Expect.due(true, vault.isConsistent());
        Expect.due(before, Vaults.seen(vault));
        vault.undo();
        Expect.due(0, vault.pearls(1));
    }

    private static void emptyIsConsistent() {
        TideVault vault = new TideVault();
        Expect.due(true, vault.isConsistent());
        vault.setTide(60, 60);
        Expect.due(true, vault.isConsistent());
        vault.setTide(480, 10);
        vault.pass(11);
        Expect.due(true, vault.isConsistent());
    }

    private static void fullIsConsistent() {
        TideVault vault = Vaults.withBoxes(0, 60, 7, 1, 13, 59, 1, 10, 30, 0);
        Vaults.turnBoth(vault, 0);
        for (int i = 0; i < 5; i++) {
            vault.deposit(0, 99);
        }
        vault.pass(59);
        for (int box = 1; box < 9; box++) {
            Vaults.turnBoth(vault, box);
        }
        vault.turnKey(9, 0, 100);
        Expect.due(true, vault.isConsistent());
        vault.pass(1);
        Expect.due(true, vault.isConsistent());
        vault.pass(180);
        Expect.due(true, vault.isConsistent());
    }

    private static void consistentAfterSetTide() {
        TideVault vault = Vaults.withBoxes(0, 1, 60);
        vault.pass(60);
        for (int box = 0; box < 3; box++) {
            Vaults.turnBoth(vault, box);
        }
        for (int low : new int[] {10, 60, 61, 62, 239, 240}) {
            vault.setTide(240, low);
            Expect.due(true, vault.isConsistent());
        }
        vault.setTide(60, 10);
        Expect.due(true, vault.isConsistent());
    }

    private static void consistentAfterUndo() {
        TideVault vault = Vaults.withBoxes(0);
        Vaults.turnBoth(vault, 0);
        vault.save();
        vault.deposit(0, 99);
        vault.deposit(0, 1);
        vault.withdraw(0);
        Expect.due(true, vault.isConsistent());
        vault.undo();
        Expect.due(100L, vault.totalValueByLedger());
        Expect.due(true, vault.isConsistent());
        vault.restore();
        Expect.due(0L, vault.totalValueByLedger());
        Expect.due(true, vault.isConsistent());
    }
}
