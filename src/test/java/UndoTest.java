/** Promises 47 to 49. */
public final class UndoTest {
    private static final Class<IllegalArgumentException> ARGUMENT = IllegalArgumentException.class;
    private static final Class<IllegalStateException> STATE = IllegalStateException.class;
    private static final Class<UnsupportedOperationException> UNSUPPORTED = UnsupportedOperationException.class;

    public static void main(String[] args) {
        everyChange();
        eightChanges();
        whatIsNoChange();
        wholeState();
        saveAndRestore();
        Expect.finish();
    }

    private static void everyChange() {
        Expect.promise(47, "undo of every change");
        TideVault vault = Vaults.withBoxes(0, 0);
        vault.save();
        vault.restore();
        Expect.throwing(STATE, vault::undo);
        vault.addHolder(5);
        Expect.due(0, vault.undo());
        Expect.due(3, vault.holders());
        vault.addBox(1, 2, 9);
        Expect.due(0, vault.undo());
        Expect.due(2, vault.boxes());
        vault.setTide(60, 10);
        Expect.due(0, vault.undo());
        Expect.due(240, vault.setTide(240, 60));
        vault.undo();
        vault.turnKey(0, 0, 100);
        Expect.due(0, vault.undo());
        Expect.due('c', vault.status(0));
        Expect.throwing(ArithmeticException.class, vault::failureRate);
        vault.changeCode(1, 101, 7);
        Expect.due(0, vault.undo());
        vault.changeCode(1, 101, 101);
        Expect.due(0, vault.undo());
        Expect.throwing(UNSUPPORTED, () -> vault.turnKey(0, 0, 7));
        Expect.due(0, vault.undo());
        Vaults.tellWrong(vault, 0, 1);
        Expect.due(0, vault.undo());
        Expect.due(0, vault.alarm());
        Expect.due(0, vault.attempts(0));
        Expect.due(0, vault.events());
        vault.pass(7);
        Expect.due(0, vault.undo());
        Expect.due(0, vault.time());
        Vaults.run(vault, "wait;turn 0 0=100;turn 0 1=101;put 0=9;wait 3");
        Expect.due(0, vault.undo());
        Expect.due(0, vault.time());
        Expect.due('c', vault.status(0));
        Vaults.turnBoth(vault, 0);
        vault.deposit(0, 6);
        vault.withdraw(0);
        vault.close(0);
        Expect.due(4, vault.undo());
        Expect.due('o', vault.status(0));
        Expect.due(3, vault.undo());
        Expect.due(6L, vault.totalValueByLedger());
        Expect.due(6, vault.pearl(0, 0));
        Expect.due(2, vault.undo());
        Expect.due(0, vault.pearls(0));
        Expect.due(1, vault.undo());
        Expect.due('h', vault.status(0));
        Expect.due(0, vault.firstHolder(0));
        Expect.due(0, vault.undo());
        Expect.throwing(STATE, vault::undo);
    }

    private static void eightChanges() {
        Expect.promise(47, "the 8 latest changes");
        TideVault vault = new TideVault();
        for (int i = 0; i < 23; i++) {
            vault.pass(1);
        }
        Expect.throwing(UNSUPPORTED, () -> Vaults.run(vault, "wait 5;take 0"));
        Expect.due(23, vault.time());
        for (int i = 7; i >= 0; i--) {
            Expect.due(i, vault.undo());
            Expect.due(15 + i, vault.time());
        }
        Expect.throwing(STATE, vault::undo);
        Expect.due(15, vault.time());
        vault.pass(1);
        vault.pass(2);
        vault.undo();
        vault.pass(4);
        Expect.due(20, vault.time());
        Expect.due(1, vault.undo());
        Expect.due(16, vault.time());
        Expect.due(0, vault.undo());
        Expect.due(15, vault.time());
        Expect.throwing(STATE, vault::undo);
    }

    private static void whatIsNoChange() {
        Expect.promise(47, "a refused call is no change");
        TideVault vault = Vaults.withBoxes(0);
        vault.save();
        vault.restore();
        Expect.throwing(ARGUMENT, () -> vault.addHolder(-1));
        Expect.throwing(ARGUMENT, () -> vault.addBox(0, 0, 0));
        Expect.throwing(ARGUMENT, () -> vault.setTide(1, 1));
        Expect.throwing(ARGUMENT, () -> vault.turnKey(0, 2, 0));
        Expect.throwing(ARGUMENT, () -> vault.changeCode(0, 1, -1));
        Expect.throwing(STATE, () -> vault.deposit(0, 1));
        Expect.throwing(STATE, () -> vault.withdraw(0));
        Expect.throwing(STATE, () -> vault.close(0));
        Expect.throwing(ARGUMENT, () -> vault.pass(0));
        Expect.throwing(ARGUMENT, () -> Vaults.run(vault, "wait;wai"));
        Expect.throwing(UNSUPPORTED, () -> Vaults.run(vault, "wait;take 0"));
        Expect.throwing(UNSUPPORTED, () -> Vaults.run(vault, "wait;turn 0 0=5"));
        vault.isConsistent();
        vault.save();
        vault.writeBox(0);
        vault.type('x');
        Expect.throwing(STATE, vault::undo);
        Expect.due(0, vault.time());
    }

    private static void wholeState() {
        Expect.promise(47, "all of the state");
        TideVault vault = Vaults.withBoxes(0, 30, 0);
        vault.setTide(100, 50);
        Vaults.tellWrong(vault, 2, 3);
        vault.undo();
        Expect.due(0, vault.minutesLocked(2));
        Expect.due(2, vault.attempts(2));
        Expect.due(20, vault.alarm());
        Vaults.turnBoth(vault, 0);
        Vaults.turnBoth(vault, 1);
        vault.deposit(0, 11);
        vault.pass(4);
        vault.turnKey(2, 1, 101);
        vault.pass(1);
        String before = Vaults.seen(vault);
        vault.pass(200);
        vault.undo();
        Expect.due(before, Vaults.seen(vault));
        vault.pass(4);
        Expect.due('c', vault.status(2));
        vault.undo();
        Expect.due('h', vault.status(2));
        Vaults.run(vault, "tide 60/60;wait 10;code 0 100>7;holder 8;box 0&2+1");
        Vaults.tellWrong(vault, 0, 1);
        vault.undo();
        vault.undo();
        Expect.due(before, Vaults.seen(vault));
        Expect.due(100, vault.setTide(100, 50));
        Expect.due('o', vault.turnKey(2, 0, 100));
    }

    private static void saveAndRestore() {
        Expect.promise(49, "restore");
        TideVault vault = Vaults.withBoxes(0);
        Expect.throwing(STATE, vault::restore);
        Expect.promise(48, "save");
        Expect.due(1, vault.save());
        Vaults.turnBoth(vault, 0);
        vault.deposit(0, 12);
        vault.addBox(1, 2, 3);
        String later = Vaults.seen(vault);
        Expect.promise(49, "restore");
        Expect.due(1, vault.restore());
        Expect.due('c', vault.status(0));
        Expect.due(0, vault.time());
        Expect.due(0L, vault.totalValueByLedger());
        Expect.throwing(STATE, vault::undo);
        Expect.promise(48, "save in place of what was saved");
        Vaults.turnBoth(vault, 0);
        vault.deposit(0, 12);
        vault.addBox(1, 2, 3);
        Expect.due(2, vault.save());
        vault.undo();
        vault.close(0);
        Vaults.run(vault, "wait 9");
        Expect.promise(49, "restore, and the state stays saved");
        Expect.due(2, vault.restore());
        Expect.due(later, Vaults.seen(vault));
        Expect.throwing(STATE, vault::undo);
        vault.pass(100);
        Expect.due(0, vault.undo());
        vault.pass(100);
        Expect.due(2, vault.restore());
        Expect.due(later, Vaults.seen(vault));
        Expect.throwing(STATE, vault::undo);
        vault.writeBox(0);
        vault.restore();
        Expect.due("0o:12", Vaults.line(vault, 5));
    }
}
