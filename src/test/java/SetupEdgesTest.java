import java.util.NoSuchElementException;

/** Boundaries of a new object, holders, boxes and the tide: promises 1 to 4, 12 and 16 to 21. */
public final class SetupEdgesTest {
    private static final Class<IllegalArgumentException> ARGUMENT = IllegalArgumentException.class;
    private static final Class<IllegalStateException> STATE = IllegalStateException.class;
    private static final Class<IndexOutOfBoundsException> INDEX = IndexOutOfBoundsException.class;
    private static final Class<NoSuchElementException> ELEMENT = NoSuchElementException.class;

    public static void main(String[] args) {
        Expect.holds(SetupEdgesTest::newVault, "P1 Creates a vault without holders and boxes, at time 0.",
                "T The time is a number of minutes, initially 0.");
        Expect.holds(SetupEdgesTest::twoVaults, "P1 Creates a vault without holders and boxes, at time 0.");
        Expect.holds(SetupEdgesTest::lastCall,
                "T An object is used for at most 512 calls after it has been made");
        holders();
        boxes();
        tide();
        numbers();
        Expect.finish();
    }

    private static void holders() {
        Expect.holds(SetupEdgesTest::codeRange, "P2 - `code`: the code, 0 to 999",
                "P2 Throws `IllegalArgumentException` if the code is out of range",
                "T A holder has a code from 0 to 999");
        Expect.holds(SetupEdgesTest::eightHolders, "P2 Throws `IllegalStateException` if there are 8 holders",
                "T There are at most 8 holders, numbered from 0 in the order in which they were added.",
                "P2 Returns the number of the holder.");
        Expect.holds(SetupEdgesTest::attemptsAtFirst, "T a number of attempts, which is initially 0");
    }

    private static void boxes() {
        Expect.holds(SetupEdgesTest::missingHolders,
                "P3 Throws `IndexOutOfBoundsException` if one of the holders does not exist",
                "P3 - `one`: one of its holders", "P3 - `other`: the other holder");
        Expect.holds(SetupEdgesTest::sameHolder,
                "P3 Throws `IllegalArgumentException` if both holders are the same one, or the delay is out of range",
                "T A box has two different holders");
        Expect.holds(SetupEdgesTest::delayRange, "P3 - `delay`: the delay in minutes, 0 to 60",
                "P3 Throws `IllegalArgumentException` if both holders are the same one, or the delay is out of range",
                "T a delay from 0 to 60 minutes");
        Expect.holds(SetupEdgesTest::tenBoxes, "P3 Throws `IllegalStateException` if there are 10 boxes",
                "T There are at most 10 boxes, numbered from 0 in the order in which they were added.",
                "P3 Returns the number of the box.");
        Expect.holds(SetupEdgesTest::newBox, "P3 Adds a box, which is closed and empty.",
                "T A box is closed, half open, pending or open, initially closed.");
    }

    private static void tide() {
        Expect.holds(SetupEdgesTest::firstTide,
                "T The tide has a period from 60 to 480 minutes, initially 240",
                "T a low part from 10 minutes to the period, initially 60");
        Expect.holds(SetupEdgesTest::periodRange, "P4 - `period`: the period in minutes, 60 to 480",
                "P4 Throws `IllegalArgumentException` if the period or the low part is out of range");
        Expect.holds(SetupEdgesTest::lowRange, "P4 - `low`: the low part in minutes, 10 to the period",
                "P4 Throws `IllegalArgumentException` if the period or the low part is out of range",
                "T a low part from 10 minutes to the period");
        Expect.holds(SetupEdgesTest::shortestLow, "T a low part from 10 minutes to the period");
        Expect.holds(SetupEdgesTest::previousPeriod, "P4 Returns the previous period.");
        Expect.holds(SetupEdgesTest::lowAtTimes,
                "T The tide is low at a time t if t mod the period is less than the low part.",
                "P12 Returns true if the tide is low.");
        Expect.holds(SetupEdgesTest::alwaysLow,
                "T The tide is low at a time t if t mod the period is less than the low part.");
        Expect.holds(SetupEdgesTest::tideOpensNothing, "P4 No box opens before the next minute by that.");
        Expect.holds(SetupEdgesTest::tideOpensAtTheNextMinute, "P4 No box opens before the next minute by that.");
    }

    private static void numbers() {
        Expect.holds(SetupEdgesTest::countsGrow, "P16 Returns the number of holders.",
                "P20 Returns the number of boxes.");
        Expect.holds(SetupEdgesTest::boxesOfMissing,
                "P19 Throws `IndexOutOfBoundsException` if the holder does not exist");
        Expect.holds(SetupEdgesTest::boxesOfHolders, "P19 Returns the number of boxes.");
        Expect.holds(SetupEdgesTest::otherHolderOfMissing,
                "P21 Throws `IndexOutOfBoundsException` if the box does not exist");
        Expect.holds(SetupEdgesTest::otherHolderOfStranger,
                "P21 Throws `IllegalArgumentException` if the number is not a holder of the box");
        Expect.holds(SetupEdgesTest::otherHolderOfBoth, "P21 Returns the other one.");
    }

    private static void newVault() {
        TideVault vault = new TideVault();
        Expect.due(0, vault.time());
        Expect.due(0, vault.holders());
        Expect.due(0, vault.boxes());
        Expect.due("0 true 237 0 true 0 0 throws.ArithmeticException throws.ArithmeticException []",
                Vaults.seen(vault));
        Expect.throwing(INDEX, () -> vault.attempts(0));
        Expect.throwing(INDEX, () -> vault.status(0));
        Expect.throwing(ELEMENT, () -> vault.boxByValue(0));
        Expect.due("", Vaults.line(vault));
        Expect.due("throws.NoSuchElementException throws.NoSuchElementException throws.NoSuchElementException",
                Vaults.records(vault));
        Expect.throwing(STATE, vault::undo);
        Expect.throwing(STATE, vault::restore);
        Expect.due(1, vault.type('w'));
    }

    private static void twoVaults() {
        TideVault used = Vaults.withBoxes(0);
        Vaults.turnBoth(used, 0);
        used.deposit(0, 5);
        used.setTide(60, 10);
        used.pass(7);
        used.save();
        used.writeBox(0);
        used.type('w');
        newVault();
    }

    private static void lastCall() {
        TideVault vault = new TideVault();
        for (int i = 0; i < 507; i++) {
            vault.pass(240);
        }
        Expect.due(507 * 240, vault.time());
        Expect.due(true, vault.isLowTide());
        Expect.due(280, vault.lowMinutes(1000));
        Expect.due(280, vault.lowMinutesByCounting(1000));
        Expect.due(7, vault.undo());
    }

    private static void codeRange() {
        TideVault vault = new TideVault();
        Expect.throwing(ARGUMENT, () -> vault.addHolder(-1));
        Expect.throwing(ARGUMENT, () -> vault.addHolder(1000));
        Expect.throwing(ARGUMENT, () -> vault.addHolder(Integer.MIN_VALUE));
        Expect.throwing(ARGUMENT, () -> vault.addHolder(Integer.MAX_VALUE));
        Expect.due(0, vault.holders());
        Expect.due(0, vault.addHolder(0));
        Expect.due(1, vault.addHolder(999));
        Expect.due(0, vault.changeCode(0, 0, 5));
        Expect.due(0, vault.changeCode(1, 999, 5));
    }

    private static void eightHolders() {
        TideVault vault = new TideVault();
        for (int i = 0; i < 8; i++) {
            Expect.due(i, vault.addHolder(7));
            Expect.due(i + 1, vault.holders());
        }
        Expect.throwing(STATE, () -> vault.addHolder(7));
        Expect.due(8, vault.holders());
        Expect.due(0, vault.attempts(7));
        Expect.throwing(INDEX, () -> vault.attempts(8));
        vault.undo();
        Expect.due(7, vault.addHolder(8));
        Expect.throwing(STATE, () -> vault.addHolder(8));
    }

    private static void attemptsAtFirst() {
        TideVault vault = Vaults.withHolders(1);
        Vaults.tellWrong(vault, 0, 3);
        vault.addHolder(5);
        Expect.due(0, vault.attempts(1));
        Expect.due(0, vault.minutesLocked(1));
        Expect.due(0, vault.changeCode(1, 5, 6));
    }

    private static void missingHolders() {
        TideVault empty = new TideVault();
        Expect.throwing(INDEX, () -> empty.addBox(0, 1, 0));
        TideVault vault = Vaults.withHolders(2);
        Expect.throwing(INDEX, () -> vault.addBox(2, 0, 0));
        Expect.throwing(INDEX, () -> vault.addBox(0, 2, 0));
        Expect.throwing(INDEX, () -> vault.addBox(-1, 0, 0));
        Expect.throwing(INDEX, () -> vault.addBox(0, -1, 0));
        Expect.throwing(INDEX, () -> vault.addBox(8, 0, 0));
        Expect.throwing(INDEX, () -> vault.addBox(0, Integer.MIN_VALUE, 0));
        Expect.throwing(INDEX, () -> vault.addBox(Integer.MAX_VALUE, 0, 0));
        Expect.due(0, vault.boxes());
        Expect.due(0, vault.addBox(1, 0, 0));
    }

    private static void sameHolder() {
        TideVault vault = Vaults.withHolders(2);
        Expect.throwing(ARGUMENT, () -> vault.addBox(0, 0, 0));
        Expect.throwing(ARGUMENT, () -> vault.addBox(1, 1, 60));
        Expect.due(0, vault.boxes());
    }

    private static void delayRange() {
        TideVault vault = Vaults.withHolders(2);
        Expect.throwing(ARGUMENT, () -> vault.addBox(0, 1, -1));
        Expect.throwing(ARGUMENT, () -> vault.addBox(0, 1, 61));
        Expect.throwing(ARGUMENT, () -> vault.addBox(0, 1, Integer.MIN_VALUE));
        Expect.throwing(ARGUMENT, () -> vault.addBox(0, 1, Integer.MAX_VALUE));
        Expect.due(0, vault.addBox(0, 1, 0));
        Expect.due(1, vault.addBox(0, 1, 60));
        Expect.due('o', Vaults.turnBoth(vault, 0));
        Expect.due('p', Vaults.turnBoth(vault, 1));
        Expect.due(60, vault.remainingDelay(1));
        Expect.due(2, vault.boxes());
    }

    private static void tenBoxes() {
        TideVault vault = Vaults.withHolders(2);
        for (int i = 0; i < 10; i++) {
            Expect.due(i, vault.addBox(0, 1, i));
            Expect.due(i + 1, vault.boxes());
        }
        Expect.throwing(STATE, () -> vault.addBox(0, 1, 0));
        Expect.due(10, vault.boxes());
        Expect.due('c', vault.status(9));
        Expect.throwing(INDEX, () -> vault.status(10));
        vault.undo();
        Expect.due(9, vault.addBox(1, 0, 0));
        Expect.throwing(STATE, () -> vault.addBox(0, 1, 0));
    }

    private static void newBox() {
        TideVault vault = Vaults.withBoxes(0);
        Vaults.turnBoth(vault, 0);
        vault.deposit(0, 5);
        vault.addBox(0, 1, 0);
        Expect.due('c', vault.status(1));
        Expect.due(0, vault.pearls(1));
        Vaults.turnBoth(vault, 1);
        vault.deposit(1, 5);
        for (int i = 0; i < 4; i++) {
            vault.undo();
        }
        vault.addBox(1, 2, 0);
        Expect.due('c', vault.status(1));
        Expect.due(0, vault.pearls(1));
    }

    private static void firstTide() {
        TideVault vault = new TideVault();
        Expect.due(true, vault.isLowTide());
        vault.pass(59);
        Expect.due(true, vault.isLowTide());
        vault.pass(1);
        Expect.due(false, vault.isLowTide());
        vault.pass(179);
        Expect.due(false, vault.isLowTide());
        vault.pass(1);
        Expect.due(true, vault.isLowTide());
        Expect.due(240, vault.setTide(60, 10));
    }

    private static void periodRange() {
        TideVault vault = new TideVault();
        Expect.throwing(ARGUMENT, () -> vault.setTide(59, 20));
        Expect.throwing(ARGUMENT, () -> vault.setTide(481, 20));
        Expect.throwing(ARGUMENT, () -> vault.setTide(0, 0));
        Expect.throwing(ARGUMENT, () -> vault.setTide(-60, 20));
        Expect.throwing(ARGUMENT, () -> vault.setTide(Integer.MIN_VALUE, 20));
        Expect.throwing(ARGUMENT, () -> vault.setTide(Integer.MAX_VALUE, 20));
        Expect.due(240, vault.setTide(60, 20));
        Expect.due(60, vault.setTide(480, 20));
        Expect.due(480, vault.setTide(240, 20));
    }

    private static void lowRange() {
        TideVault vault = new TideVault();
        Expect.throwing(ARGUMENT, () -> vault.setTide(100, 9));
        Expect.throwing(ARGUMENT, () -> vault.setTide(100, 101));
        Expect.throwing(ARGUMENT, () -> vault.setTide(60, 61));
        Expect.throwing(ARGUMENT, () -> vault.setTide(480, 481));
        Expect.throwing(ARGUMENT, () -> vault.setTide(100, 0));
        Expect.throwing(ARGUMENT, () -> vault.setTide(100, Integer.MIN_VALUE));
        Expect.throwing(ARGUMENT, () -> vault.setTide(100, Integer.MAX_VALUE));
        Expect.due(60, vault.lowMinutes(240));
        Expect.due(240, vault.setTide(60, 60));
        Expect.due(60, vault.setTide(480, 480));
        Expect.due(480, vault.setTide(480, 10));
        Expect.due(10, vault.lowMinutes(480));
    }

    private static void shortestLow() {
        TideVault vault = new TideVault();
        vault.setTide(60, 10);
        vault.pass(9);
        Expect.due(true, vault.isLowTide());
        vault.pass(1);
        Expect.due(false, vault.isLowTide());
    }

    private static void previousPeriod() {
        TideVault vault = new TideVault();
        Expect.due(240, vault.setTide(241, 10));
        Expect.throwing(ARGUMENT, () -> vault.setTide(300, 301));
        Expect.due(241, vault.setTide(241, 11));
        Expect.due(241, vault.setTide(60, 10));
        vault.undo();
        Expect.due(241, vault.setTide(61, 10));
    }

    private static void lowAtTimes() {
        TideVault vault = new TideVault();
        vault.setTide(61, 11);
        for (int time = 0; time < 130; time++) {
            boolean isDue = time <= 10 || time >= 61 && time <= 71 || time >= 122;
            Expect.due(isDue, vault.isLowTide());
            vault.pass(1);
        }
    }

    private static void alwaysLow() {
        TideVault vault = new TideVault();
        vault.setTide(61, 61);
        vault.pass(59);
        for (int time = 59; time < 63; time++) {
            Expect.due(true, vault.isLowTide());
            vault.pass(1);
        }
    }

    private static void tideOpensNothing() {
        TideVault vault = Vaults.withBoxes(0);
        vault.pass(60);
        Expect.due('p', Vaults.turnBoth(vault, 0));
        vault.setTide(240, 61);
        Expect.due(true, vault.isLowTide());
        Expect.due('p', vault.status(0));
        Expect.due(0, vault.events());
        Expect.due(180, vault.minutesUntilOpen(0));
        Expect.due(180, vault.minutesUntilOpenBySimulation(0));
        Expect.due(0, vault.pass(179));
        Expect.due(1, vault.pass(1));
    }

    private static void tideOpensAtTheNextMinute() {
        TideVault vault = Vaults.withBoxes(0);
        vault.pass(60);
        Expect.due('p', Vaults.turnBoth(vault, 0));
        vault.setTide(240, 62);
        Expect.due('p', vault.status(0));
        Expect.due(1, vault.minutesUntilOpen(0));
        Expect.due(1, vault.minutesUntilOpenBySimulation(0));
        Expect.due(1, vault.pass(1));
        Expect.due("o0@61", Vaults.events(vault));
    }

    private static void countsGrow() {
        TideVault vault = new TideVault();
        Expect.due(0, vault.holders());
        vault.addHolder(1);
        vault.addHolder(2);
        Expect.due(2, vault.holders());
        Expect.due(0, vault.boxes());
        vault.addBox(0, 1, 5);
        Expect.due(2, vault.holders());
        Expect.due(1, vault.boxes());
        vault.undo();
        Expect.due(0, vault.boxes());
    }

    private static void boxesOfMissing() {
        TideVault empty = new TideVault();
        Expect.throwing(INDEX, () -> empty.boxesOf(0));
        TideVault vault = Vaults.withBoxes(0);
        Expect.throwing(INDEX, () -> vault.boxesOf(-1));
        Expect.throwing(INDEX, () -> vault.boxesOf(3));
        Expect.throwing(INDEX, () -> vault.boxesOf(8));
        Expect.throwing(INDEX, () -> vault.boxesOf(Integer.MIN_VALUE));
        Expect.throwing(INDEX, () -> vault.boxesOf(Integer.MAX_VALUE));
    }

    private static void boxesOfHolders() {
        TideVault vault = Vaults.withHolders(3);
        Expect.due(0, vault.boxesOf(0));
        for (int i = 0; i < 9; i++) {
            vault.addBox(0, 1, 0);
        }
        vault.addBox(1, 0, 0);
        Expect.due(10, vault.boxesOf(0));
        Expect.due(10, vault.boxesOf(1));
        Expect.due(0, vault.boxesOf(2));
    }

    private static void otherHolderOfMissing() {
        TideVault vault = Vaults.withHolders(2);
        Expect.throwing(INDEX, () -> vault.otherHolder(0, 0));
        vault.addBox(0, 1, 0);
        Expect.throwing(INDEX, () -> vault.otherHolder(-1, 0));
        Expect.throwing(INDEX, () -> vault.otherHolder(1, 0));
        Expect.throwing(INDEX, () -> vault.otherHolder(10, 0));
        Expect.throwing(INDEX, () -> vault.otherHolder(Integer.MIN_VALUE, 0));
        Expect.throwing(INDEX, () -> vault.otherHolder(Integer.MAX_VALUE, 0));
    }

    private static void otherHolderOfStranger() {
        TideVault vault = Vaults.withBoxes(0);
        Expect.throwing(ARGUMENT, () -> vault.otherHolder(0, 2));
        Expect.throwing(ARGUMENT, () -> vault.otherHolder(0, 3));
        Expect.throwing(ARGUMENT, () -> vault.otherHolder(0, -1));
        Expect.throwing(ARGUMENT, () -> vault.otherHolder(0, Integer.MIN_VALUE));
        Expect.throwing(ARGUMENT, () -> vault.otherHolder(0, Integer.MAX_VALUE));
    }

    private static void otherHolderOfBoth() {
        TideVault vault = Vaults.withHolders(8);
        vault.addBox(7, 0, 0);
        Expect.due(0, vault.otherHolder(0, 7));
        Expect.due(7, vault.otherHolder(0, 0));
    }
}
