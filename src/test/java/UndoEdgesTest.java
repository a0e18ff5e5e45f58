/** Boundaries of undo, save and restore: promises 47 to 49. */
public final class UndoEdgesTest {
    private static final Class<IllegalArgumentException> ARGUMENT = IllegalArgumentException.class;
    private static final Class<IllegalStateException> STATE = IllegalStateException.class;
    private static final Class<UnsupportedOperationException> CODE = UnsupportedOperationException.class;

    public static void main(String[] args) {
        undo();
        changes();
        state();
        snapshots();
        Expect.finish();
    }

    private static void undo() {
        Expect.holds(UndoEdgesTest::nothingToUndo, "P47 Throws `IllegalStateException` if no change can be undone");
        Expect.holds(UndoEdgesTest::allUndone, "P47 Throws `IllegalStateException` if no change can be undone");
        Expect.holds(UndoEdgesTest::eightChanges, "T The 8 latest changes can be undone.",
                "P47 Returns the number of changes that can still be undone.");
        Expect.holds(UndoEdgesTest::nineChanges, "T The 8 latest changes can be undone.");
        Expect.holds(UndoEdgesTest::manyChanges, "T The 8 latest changes can be undone.");
        Expect.holds(UndoEdgesTest::changesAfterUndo, "P47 Undoes the latest change that was not undone.");
        Expect.holds(UndoEdgesTest::refillAfterUndo, "P47 Undoes the latest change that was not undone.",
                "T The 8 latest changes can be undone.");
        Expect.holds(UndoEdgesTest::failedProgramKeepsAllChanges, "T The 8 latest changes can be undone.");
    }

    private static void changes() {
        String change = "T A change is a successful call of addHolder, addBox, setTide, turnKey, changeCode, deposit,"
                + " withdraw, close, pass or run, and also a call of turnKey or changeCode with a wrong code.";
        Expect.holds(UndoEdgesTest::everyChange, change);
        Expect.holds(UndoEdgesTest::changesWithoutEffect, change);
        Expect.holds(UndoEdgesTest::wrongCodes, change);
        Expect.holds(UndoEdgesTest::programIsOneChange, change);
        Expect.holds(UndoEdgesTest::refusedCallsAreNoChanges, change);
        Expect.holds(UndoEdgesTest::questionsAreNoChanges, change);
    }

    private static void state() {
        String state = "T The state that is undone, saved and restored consists of everything except the program buffer,"
                + " the error position, the failed command and the output line.";
        Expect.holds(UndoEdgesTest::everythingIsUndone, state);
        Expect.holds(UndoEdgesTest::everythingIsRestored, state);
        Expect.holds(UndoEdgesTest::bufferStays, state);
        Expect.holds(UndoEdgesTest::recordsStay, state);
        Expect.holds(UndoEdgesTest::lineStays, state);
        Expect.holds(UndoEdgesTest::lockOutIsUndone, state);
        Expect.holds(UndoEdgesTest::timesSinceAreUndone, state);
        Expect.holds(UndoEdgesTest::codesAreUndone, state);
        Expect.holds(UndoEdgesTest::otherBoxesAreReplaced, state);
        Expect.holds(UndoEdgesTest::droppedEventsComeBack, state);
    }

    private static void snapshots() {
        Expect.holds(UndoEdgesTest::nothingSaved, "P49 Throws `IllegalStateException` if no state was saved");
        Expect.holds(UndoEdgesTest::boxesReturned, "P48 Returns the number of boxes.",
                "P49 Returns the number of boxes.");
        Expect.holds(UndoEdgesTest::latestSaved, "P48 Saves the state in place of the state that was saved before.");
        Expect.holds(UndoEdgesTest::staysSaved, "P49 Restores the saved state, which stays saved.");
        Expect.holds(UndoEdgesTest::noUndoAfterRestore, "P49 Afterwards no change can be undone.");
        Expect.holds(UndoEdgesTest::saveKeepsUndo, "P48 Saves the state in place of the state that was saved before.");
        Expect.holds(UndoEdgesTest::savedIsACopy, "P48 Saves the state in place of the state that was saved before.");
    }

    private static void nothingToUndo() {
        TideVault vault = new TideVault();
        Expect.throwing(STATE, vault::undo);
        vault.save();
        Expect.throwing(STATE, vault::undo);
        vault.pass(1);
        Expect.due(0, vault.undo());
    }

    private static void allUndone() {
        TideVault vault = new TideVault();
        vault.pass(1);
        vault.pass(2);
        Expect.due(1, vault.undo());
        Expect.due(0, vault.undo());
        Expect.throwing(STATE, vault::undo);
        Expect.throwing(STATE, vault::undo);
        Expect.due(0, vault.time());
        vault.pass(3);
        Expect.due(0, vault.undo());
        Expect.throwing(STATE, vault::undo);
    }

    /** A vault on which this many minutes passed, each by a call of its own. */
    private static TideVault minutes(int number) {
        TideVault vault = new TideVault();
        for (int i = 0; i < number; i++) {
            vault.pass(1);
        }
        return vault;
    }

    private static void undoesDownTo(int lowest, TideVault vault) {
        for (int i = 7; i >= 0; i--) {
            Expect.due(i, vault.undo());
            Expect.due(lowest + i, vault.time());
        }
        Expect.throwing(STATE, vault::undo);
        Expect.due(lowest, vault.time());
    }

    private static void eightChanges() {
        undoesDownTo(0, minutes(8));
        TideVault seven = minutes(7);
        Expect.due(6, seven.undo());
    }

    private static void nineChanges() {
        undoesDownTo(1, minutes(9));
        undoesDownTo(2, minutes(10));
    }

    private static void manyChanges() {
        for (int number : new int[] {16, 17, 18, 19, 24, 25, 27, 100}) {
            undoesDownTo(number - 8, minutes(number));
        }
    }

    private static void changesAfterUndo() {
        TideVault vault = minutes(3);
        vault.undo();
        vault.pass(10);
        vault.undo();
        Expect.due(2, vault.time());
        Expect.due(1, vault.undo());
        Expect.due(1, vault.time());
        Expect.due(0, vault.undo());
        Expect.due(0, vault.time());
    }

    private static void refillAfterUndo() {
        for (int number = 8; number <= 20; number++) {
            TideVault vault = minutes(number);
            for (int i = 0; i < 5; i++) {
                vault.undo();
            }
            for (int i = 0; i < 5; i++) {
                vault.pass(1);
            }
            undoesDownTo(number - 8, vault);
        }
    }

    private static void failedProgramKeepsAllChanges() {
        for (int number = 8; number <= 20; number++) {
            TideVault vault = minutes(number);
            Expect.throwing(CODE, () -> Vaults.run(vault, "wait;wait;take 0"));
            Expect.throwing(ARGUMENT, () -> Vaults.run(vault, "wait;wait;take"));
            undoesDownTo(number - 8, vault);
        }
    }

    /** Checks that a call is one change by which what can be seen changes and comes back. */
    private static void isAChange(TideVault vault, Expect.Call call) {
        vault.save();
        vault.restore();
        String before = Vaults.seen(vault);
        call.call();
        Expect.due(false, before.equals(Vaults.seen(vault)));
        Expect.due(0, vault.undo());
        Expect.due(before, Vaults.seen(vault));
        Expect.throwing(STATE, vault::undo);
    }

    private static void everyChange() {
        TideVault vault = Vaults.withBoxes(60, 0, 0, 0);
        Vaults.turnBoth(vault, 0);
        Vaults.turnBoth(vault, 1);
        vault.deposit(1, 9);
        vault.turnKey(2, 1, 101);
        isAChange(vault, () -> vault.addHolder(5));
        isAChange(vault, () -> vault.addBox(0, 1, 5));
        isAChange(vault, () -> vault.setTide(60, 10));
        isAChange(vault, () -> vault.turnKey(3, 0, 100));
        isAChange(vault, () -> vault.turnKey(2, 0, 100));
        isAChange(vault, () -> vault.deposit(1, 9));
        isAChange(vault, () -> vault.withdraw(1));
        isAChange(vault, () -> vault.close(0));
        isAChange(vault, () -> vault.close(1));
        isAChange(vault, () -> vault.pass(1));
        isAChange(vault, () -> Vaults.run(vault, "wait"));
        Vaults.tellWrong(vault, 0, 1);
        isAChange(vault, () -> vault.changeCode(0, 100, 5));
    }

    private static void changesWithoutEffect() {
        TideVault vault = Vaults.withHolders(1);
        vault.changeCode(0, 100, 100);
        vault.save();
        vault.restore();
        vault.setTide(240, 60);
        vault.changeCode(0, 100, 100);
        Vaults.run(vault, "tide 240/60");
        Expect.due(2, vault.undo());
        Expect.due(1, vault.undo());
        Expect.due(0, vault.undo());
    }

    private static void wrongCodes() {
        TideVault vault = Vaults.withBoxes(0);
        isAChange(vault, () -> Expect.throwing(CODE, () -> vault.turnKey(0, 0, 7)));
        isAChange(vault, () -> Expect.throwing(CODE, () -> vault.changeCode(0, 7, 7)));
        Vaults.tellWrong(vault, 0, 2);
        isAChange(vault, () -> Expect.throwing(CODE, () -> vault.turnKey(0, 0, 7)));
        isAChange(vault, () -> Expect.throwing(CODE, () -> vault.changeCode(0, 7, 7)));
    }

    private static void programIsOneChange() {
        TideVault vault = Vaults.withBoxes(0);
        isAChange(vault, () -> Vaults.run(vault, "wait;wait 2;turn 0 0=100;turn 0 1=101;put 0=9;put 0=8"));
        isAChange(vault, () -> Vaults.run(vault, "wait;wait;wait;wait;wait;wait;wait;wait;wait;wait;wait;wait"));
    }

    private static void refusedCallsAreNoChanges() {
        TideVault vault = minutes(1);
        Expect.throwing(ARGUMENT, () -> vault.pass(0));
        Expect.throwing(ARGUMENT, () -> vault.addHolder(-1));
        Expect.throwing(ARGUMENT, () -> vault.setTide(0, 0));
        Expect.throwing(IndexOutOfBoundsException.class, () -> vault.addBox(0, 1, 0));
        Expect.throwing(IndexOutOfBoundsException.class, () -> vault.turnKey(0, 0, 0));
        Expect.throwing(IndexOutOfBoundsException.class, () -> vault.changeCode(0, 0, 0));
        Expect.throwing(IndexOutOfBoundsException.class, () -> vault.deposit(0, 5));
        Expect.throwing(IndexOutOfBoundsException.class, () -> vault.withdraw(0));
        Expect.throwing(IndexOutOfBoundsException.class, () -> vault.close(0));
        Expect.throwing(CODE, () -> Vaults.run(vault, "wait;wait 0"));
        Expect.throwing(ARGUMENT, () -> Vaults.run(vault, "wait;wait "));
        Expect.throwing(STATE, vault::restore);
        Expect.due(0, vault.undo());
        Expect.due(0, vault.time());
    }

    private static void questionsAreNoChanges() {
        TideVault vault = Vaults.withBoxes(60);
        Vaults.turnBoth(vault, 0);
        vault.save();
        vault.restore();
        Vaults.seen(vault);
        vault.minutesUntilOpen(0);
        vault.minutesUntilOpenBySimulation(0);
        vault.isConsistent();
        vault.writeBox(0);
        vault.writeEvents();
        vault.type('w');
        vault.save();
        Expect.throwing(STATE, vault::undo);
    }

    /** Some of everything: pearls, events, attempts, a lock-out, statuses, a code and a tide. */
    private static void changeEverything(TideVault vault) {
        vault.setTide(100, 70);
        vault.pass(3);
        vault.addHolder(500);
        vault.addBox(2, 3, 30);
        Vaults.tellWrong(vault, 1, 2);
        vault.deposit(0, 77);
        vault.close(0);
        vault.close(1);
        vault.turnKey(2, 1, 101);
        vault.turnKey(3, 3, 500);
        vault.changeCode(0, 100, 7);
        Vaults.tellWrong(vault, 2, 2);
    }

    /** Box 0 is open, 1 pending, 2 half open, and holder 2 told one wrong code. */
    private static TideVault withAllStatuses() {
        TideVault vault = Vaults.withBoxes(0, 40, 0);
        vault.pass(5);
        Vaults.turnBoth(vault, 0);
        vault.deposit(0, 12);
        vault.deposit(0, 99);
        Vaults.turnBoth(vault, 1);
        vault.turnKey(2, 0, 100);
        Vaults.tellWrong(vault, 2, 1);
        vault.pass(2);
        return vault;
    }

    private static void everythingIsUndone() {
        TideVault vault = withAllStatuses();
        String before = Vaults.seen(vault);
        Vaults.run(vault, "tide 99/20;holder 5;box 0&1+2;take 0;close 1;wait 200");
        Expect.due(false, before.equals(Vaults.seen(vault)));
        Expect.due(7, vault.undo());
        Expect.due(before, Vaults.seen(vault));
        Expect.due(240, vault.setTide(240, 60));
        Expect.due(1, vault.pass(38));
        Expect.due("o1@45", Vaults.events(vault).substring(Vaults.events(vault).lastIndexOf(' ') + 1));
    }

    private static void everythingIsRestored() {
        TideVault vault = withAllStatuses();
        vault.save();
        String before = Vaults.seen(vault);
        changeEverything(vault);
        Expect.due(false, before.equals(Vaults.seen(vault)));
        Expect.due(3, vault.restore());
        Expect.due(before, Vaults.seen(vault));
        Expect.due(3, vault.addHolder(1));
        Expect.due(3, vault.addBox(0, 1, 1));
        Expect.due(0, vault.changeCode(0, 100, 100));
        Expect.due('o', vault.turnKey(2, 1, 101));
    }

    private static void bufferStays() {
        TideVault vault = minutes(1);
        vault.save();
        Vaults.type(vault, "wai");
        vault.undo();
        vault.type('t');
        vault.restore();
        Expect.due(5, vault.type(' '));
        vault.type('7');
        vault.addHolder(1);
        Expect.due(1, vault.run());
        Expect.due(8, vault.time());
        vault.undo();
        Expect.due(1, vault.type('w'));
    }

    private static void recordsStay() {
        TideVault vault = minutes(1);
        vault.addHolder(5);
        vault.save();
        Expect.throwing(ARGUMENT, () -> Vaults.run(vault, "wai"));
        Expect.throwing(CODE, () -> Vaults.run(vault, "wait;code 0 6>6"));
        vault.undo();
        vault.undo();
        Expect.due("3 1 true", Vaults.records(vault));
        vault.restore();
        Expect.due("3 1 true", Vaults.records(vault));
    }

    private static void lineStays() {
        TideVault vault = Vaults.withBoxes(0);
        vault.save();
        Vaults.turnBoth(vault, 0);
        vault.writeBox(0);
        vault.undo();
        vault.undo();
        Expect.due("0o:", Vaults.line(vault));
        vault.restore();
        Expect.due("0o:", Vaults.line(vault));
    }

    private static void lockOutIsUndone() {
        TideVault vault = Vaults.withHolders(1);
        Vaults.tellWrong(vault, 0, 2);
        vault.save();
        Vaults.tellWrong(vault, 0, 1);
        Expect.throwing(STATE, () -> vault.changeCode(0, 100, 100));
        vault.undo();
        Expect.due(2, vault.attempts(0));
        Expect.due(0, vault.minutesLocked(0));
        Expect.due(20, vault.alarm());
        Expect.due(2, vault.events());
        Expect.due(2, vault.changeCode(0, 100, 100));
        Vaults.tellWrong(vault, 0, 3);
        vault.pass(30);
        vault.undo();
        Expect.due(30, vault.minutesLocked(0));
        Expect.throwing(STATE, () -> vault.changeCode(0, 100, 100));
        vault.restore();
        Expect.due(2, vault.changeCode(0, 100, 100));
    }

    private static void timesSinceAreUndone() {
        TideVault vault = Vaults.withBoxes(0, 0);
        vault.turnKey(0, 0, 100);
        Vaults.turnBoth(vault, 1);
        vault.pass(4);
        vault.close(0);
        vault.turnKey(0, 0, 100);
        vault.close(1);
        Vaults.turnBoth(vault, 1);
        for (int i = 0; i < 5; i++) {
            vault.undo();
        }
        Expect.due('h', vault.status(0));
        vault.pass(1);
        Expect.due('c', vault.status(0));
        vault.pass(4);
        Expect.due('o', vault.status(1));
        vault.pass(1);
        Expect.due('c', vault.status(1));
    }

    private static void codesAreUndone() {
        TideVault vault = Vaults.withHolders(1);
        vault.save();
        vault.changeCode(0, 100, 5);
        vault.undo();
        Expect.due(0, vault.changeCode(0, 100, 6));
        vault.restore();
        Expect.due(0, vault.changeCode(0, 100, 7));
        Expect.throwing(CODE, () -> vault.changeCode(0, 100, 8));
    }

    private static void otherBoxesAreReplaced() {
        TideVault vault = Vaults.withHolders(4);
        vault.addBox(0, 1, 60);
        vault.save();
        vault.undo();
        vault.addBox(2, 3, 7);
        vault.restore();
        Expect.due(1, vault.otherHolder(0, 0));
        Expect.due(0, vault.otherHolder(0, 1));
        Expect.throwing(ARGUMENT, () -> vault.otherHolder(0, 2));
        Expect.throwing(ARGUMENT, () -> vault.otherHolder(0, 3));
        Expect.due('p', Vaults.turnBoth(vault, 0));
        Expect.due(60, vault.remainingDelay(0));
    }

    private static void droppedEventsComeBack() {
        TideVault vault = Vaults.withBoxes(0, 0);
        Vaults.turnBoth(vault, 1);
        for (int i = 1; i <= 5; i++) {
            vault.deposit(1, i);
        }
        vault.pass(1);
        for (int i = 1; i <= 5; i++) {
            vault.withdraw(1);
        }
        vault.deposit(1, 9);
        String before = "o1@0 d1@0 d1@0 d1@0 d1@0 d1@0 w1@1 w1@1 w1@1 w1@1 w1@1 d1@1";
        Expect.due(before, Vaults.events(vault));
        vault.save();
        vault.pass(2);
        Vaults.tellWrong(vault, 2, 2);
        Vaults.turnBoth(vault, 0);
        Expect.due("d1@0 d1@0 d1@0 w1@1 w1@1 w1@1 w1@1 w1@1 d1@1 f2@3 f2@3 o0@3", Vaults.events(vault));
        for (int i = 0; i < 5; i++) {
            vault.undo();
        }
        Expect.due(before, Vaults.events(vault));
        Vaults.turnBoth(vault, 0);
        vault.restore();
        Expect.due(before, Vaults.events(vault));
    }

    private static void nothingSaved() {
        TideVault vault = minutes(2);
        Expect.throwing(STATE, vault::restore);
        vault.undo();
        Expect.throwing(STATE, vault::restore);
        Expect.due(0, vault.undo());
        vault.save();
        Expect.due(0, vault.restore());
    }

    private static void boxesReturned() {
        TideVault vault = Vaults.withHolders(2);
        Expect.due(0, vault.save());
        Expect.due(0, vault.restore());
        for (int i = 1; i <= 10; i++) {
            vault.addBox(0, 1, 0);
        }
        Expect.due(0, vault.restore());
        for (int i = 1; i <= 10; i++) {
            vault.addBox(0, 1, 0);
            Expect.due(i, vault.save());
        }
        vault.undo();
        vault.undo();
        Expect.due(10, vault.restore());
        Expect.due(10, vault.boxes());
    }

    private static void latestSaved() {
        TideVault vault = minutes(1);
        vault.save();
        vault.pass(1);
        vault.save();
        vault.pass(1);
        vault.restore();
        Expect.due(2, vault.time());
        vault.save();
        vault.pass(1);
        vault.restore();
        Expect.due(2, vault.time());
    }

    private static void staysSaved() {
        TideVault vault = minutes(1);
        vault.save();
        for (int i = 0; i < 3; i++) {
            vault.pass(5);
            vault.restore();
            Expect.due(1, vault.time());
        }
        vault.restore();
        Expect.due(1, vault.time());
    }

    private static void noUndoAfterRestore() {
        TideVault vault = minutes(10);
        vault.save();
        vault.restore();
        Expect.throwing(STATE, vault::undo);
        Expect.due(10, vault.time());
        vault.pass(1);
        Expect.due(0, vault.undo());
        Expect.due(10, vault.time());
        Expect.throwing(STATE, vault::undo);
        for (int i = 0; i < 9; i++) {
            vault.pass(1);
        }
        undoesDownTo(11, vault);
    }

    private static void saveKeepsUndo() {
        TideVault vault = minutes(3);
        vault.save();
        Expect.due(2, vault.undo());
        Expect.due(2, vault.time());
        vault.save();
        Expect.due(1, vault.undo());
        vault.restore();
        Expect.due(2, vault.time());
    }

    private static void savedIsACopy() {
        TideVault vault = withAllStatuses();
        vault.save();
        String before = Vaults.seen(vault);
        for (int i = 0; i < 2; i++) {
            changeEverything(vault);
            vault.undo();
            vault.undo();
            vault.restore();
            Expect.due(before, Vaults.seen(vault));
        }
    }
}
