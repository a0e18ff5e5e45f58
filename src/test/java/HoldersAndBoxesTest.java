/** Promises 1 to 4 and 16 to 22. */
public final class HoldersAndBoxesTest {
    private static final Class<IllegalArgumentException> ARGUMENT = IllegalArgumentException.class;
    private static final Class<IllegalStateException> STATE = IllegalStateException.class;
    private static final Class<IndexOutOfBoundsException> INDEX = IndexOutOfBoundsException.class;

    public static void main(String[] args) {
        newObject();
        addHolder();
        addBox();
        setTide();
        numbersOfHolders();
        otherHolder();
        status();
        Expect.finish();
    }

    private static void newObject() {
        Expect.promise(1, "a new object");
        TideVault vault = new TideVault();
        Expect.due(0, vault.time());
        Expect.due(0, vault.holders());
        Expect.due(0, vault.boxes());
        Expect.due(0, vault.alarm());
        Expect.due(0, vault.events());
        Expect.due(0L, vault.totalValue());
        Expect.due(0L, vault.totalValueByLedger());
        Expect.due(true, vault.isLowTide());
        Expect.due(true, vault.isConsistent());
        Expect.due(0, vault.writeEvents());
        Expect.throwing(STATE, vault::undo);
        Expect.throwing(STATE, vault::restore);
        Expect.due(240, vault.setTide(60, 10));
        TideVault other = new TideVault();
        Expect.due(240, other.setTide(60, 10));
    }

    private static void addHolder() {
        Expect.promise(2, "addHolder");
        TideVault vault = new TideVault();
        Expect.throwing(ARGUMENT, () -> vault.addHolder(-1));
        Expect.throwing(ARGUMENT, () -> vault.addHolder(1000));
        Expect.throwing(ARGUMENT, () -> vault.addHolder(Integer.MIN_VALUE));
        Expect.due(0, vault.holders());
        Expect.due(0, vault.addHolder(0));
        Expect.due(1, vault.addHolder(999));
        for (int i = 2; i < 8; i++) {
            Expect.due(i, vault.addHolder(999));
        }
        Expect.throwing(STATE, () -> vault.addHolder(5));
        Expect.throwing(ARGUMENT, () -> vault.addHolder(1000));
        Expect.due(8, vault.holders());
        vault.addBox(0, 1, 0);
        Expect.due('h', vault.turnKey(0, 0, 0));
        Expect.due('o', vault.turnKey(0, 1, 999));
    }

    private static void addBox() {
        Expect.promise(3, "addBox");
        TideVault vault = Vaults.withHolders(3);
        Expect.throwing(INDEX, () -> vault.addBox(-1, 0, 0));
        Expect.throwing(INDEX, () -> vault.addBox(0, -1, 0));
        Expect.throwing(INDEX, () -> vault.addBox(3, 0, 0));
        Expect.throwing(INDEX, () -> vault.addBox(0, 3, 0));
        Expect.throwing(INDEX, () -> vault.addBox(3, 3, 99));
        Expect.throwing(INDEX, () -> vault.addBox(Integer.MAX_VALUE, 0, 0));
        Expect.throwing(ARGUMENT, () -> vault.addBox(1, 1, 0));
        Expect.throwing(ARGUMENT, () -> vault.addBox(0, 1, -1));
        Expect.throwing(ARGUMENT, () -> vault.addBox(0, 1, 61));
        Expect.due(0, vault.boxes());
        Expect.due(0, vault.addBox(0, 1, 0));
        Expect.due(1, vault.addBox(2, 1, 60));
        Expect.due('c', vault.status(0));
        Expect.due(0, vault.pearls(1));
        for (int i = 2; i < 10; i++) {
            Expect.due(i, vault.addBox(0, 1, i));
        }
        Expect.throwing(STATE, () -> vault.addBox(0, 1, 0));
        Expect.throwing(ARGUMENT, () -> vault.addBox(0, 0, 0));
        Expect.throwing(INDEX, () -> vault.addBox(0, 3, 0));
        Expect.due(10, vault.boxes());
        vault.turnKey(1, 2, 102);
        Expect.due('p', vault.turnKey(1, 1, 101));
        Expect.due(60, vault.remainingDelay(1));
    }

    private static void setTide() {
        Expect.promise(4, "setTide");
        TideVault vault = Vaults.withBoxes(0);
        Expect.throwing(ARGUMENT, () -> vault.setTide(59, 20));
        Expect.throwing(ARGUMENT, () -> vault.setTide(481, 20));
        Expect.throwing(ARGUMENT, () -> vault.setTide(60, 9));
        Expect.throwing(ARGUMENT, () -> vault.setTide(60, 61));
        Expect.throwing(ARGUMENT, () -> vault.setTide(480, 481));
        Expect.throwing(ARGUMENT, () -> vault.setTide(100, -20));
        Expect.due(240, vault.setTide(60, 10));
        Expect.due(60, vault.setTide(60, 60));
        Expect.due(60, vault.setTide(480, 480));
        Expect.due(480, vault.setTide(480, 10));
        vault.pass(20);
        Expect.due(false, vault.isLowTide());
        Expect.due('p', Vaults.turnBoth(vault, 0));
        vault.setTide(480, 100);
        Expect.due(true, vault.isLowTide());
        Expect.due('p', vault.status(0));
        Expect.due(1, vault.minutesUntilOpen(0));
        Expect.due(1, vault.minutesUntilOpenBySimulation(0));
        Expect.due(1, vault.pass(1));
        Expect.due('o', vault.status(0));
    }

    private static void numbersOfHolders() {
        Expect.promise(16, "holders");
        TideVault vault = Vaults.withHolders(4);
        Expect.due(4, vault.holders());

        Expect.promise(17, "attempts");
        Expect.throwing(INDEX, () -> vault.attempts(-1));
        Expect.throwing(INDEX, () -> vault.attempts(4));
        Expect.due(0, vault.attempts(3));
        Vaults.tellWrong(vault, 3, 1);
        Expect.due(1, vault.attempts(3));
        Expect.due(0, vault.attempts(2));
        Vaults.tellWrong(vault, 3, 1);
        Expect.due(2, vault.attempts(3));
        Vaults.tellWrong(vault, 3, 1);
        Expect.due(0, vault.attempts(3));

        Expect.promise(18, "minutesLocked");
        Expect.throwing(INDEX, () -> vault.minutesLocked(-1));
        Expect.throwing(INDEX, () -> vault.minutesLocked(4));
        Expect.due(30, vault.minutesLocked(3));
        Expect.due(0, vault.minutesLocked(2));
        vault.pass(29);
        Expect.due(1, vault.minutesLocked(3));
        vault.pass(1);
        Expect.due(0, vault.minutesLocked(3));
        vault.pass(1);
        Expect.due(0, vault.minutesLocked(3));

        Expect.promise(19, "boxesOf");
        Expect.throwing(INDEX, () -> vault.boxesOf(-1));
        Expect.throwing(INDEX, () -> vault.boxesOf(4));
        vault.addBox(0, 1, 0);
        vault.addBox(2, 0, 0);
        vault.addBox(0, 1, 0);
        Expect.due(3, vault.boxesOf(0));
        Expect.due(2, vault.boxesOf(1));
        Expect.due(1, vault.boxesOf(2));
        Expect.due(0, vault.boxesOf(3));

        Expect.promise(20, "boxes");
        Expect.due(3, vault.boxes());
    }

    private static void otherHolder() {
        Expect.promise(21, "otherHolder");
        TideVault vault = Vaults.withHolders(4);
        vault.addBox(2, 1, 0);
        Expect.due(1, vault.otherHolder(0, 2));
        Expect.due(2, vault.otherHolder(0, 1));
        Expect.throwing(ARGUMENT, () -> vault.otherHolder(0, 0));
        Expect.throwing(ARGUMENT, () -> vault.otherHolder(0, 3));
        Expect.throwing(ARGUMENT, () -> vault.otherHolder(0, -1));
        Expect.throwing(ARGUMENT, () -> vault.otherHolder(0, 8));
        Expect.throwing(INDEX, () -> vault.otherHolder(1, 0));
        Expect.throwing(INDEX, () -> vault.otherHolder(-1, 2));
    }

    private static void status() {
        Expect.promise(22, "status");
        TideVault vault = Vaults.withBoxes(0, 1);
        Expect.throwing(INDEX, () -> vault.status(-1));
        Expect.throwing(INDEX, () -> vault.status(2));
        Expect.throwing(INDEX, () -> vault.status(10));
        Expect.due('c', vault.status(0));
        vault.turnKey(0, 0, 100);
        Expect.due('h', vault.status(0));
        vault.turnKey(0, 1, 101);
        Expect.due('o', vault.status(0));
        Vaults.turnBoth(vault, 1);
        Expect.due('p', vault.status(1));
    }
}
