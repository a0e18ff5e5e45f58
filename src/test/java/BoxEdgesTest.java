import java.util.NoSuchElementException;

/** Boundaries of boxes and minutes: promises 9, 10, 22 and 24. */
public final class BoxEdgesTest {
    private static final Class<IllegalArgumentException> ARGUMENT = IllegalArgumentException.class;
    private static final Class<IllegalStateException> STATE = IllegalStateException.class;
    private static final Class<IndexOutOfBoundsException> INDEX = IndexOutOfBoundsException.class;
    private static final Class<NoSuchElementException> ELEMENT = NoSuchElementException.class;

    public static void main(String[] args) {
        boxes();
        countDown();
        closing();
        order();
        close();
        passAndAnswers();
        Expect.finish();
    }

    private static void boxes() {
        Expect.holds(BoxEdgesTest::firstKey,
                "T When one of the holders turns a key of a closed box, it becomes half open.");
        Expect.holds(BoxEdgesTest::otherKey, "T When the other holder turns a key of a half-open box,"
                + " it becomes pending, and its remaining delay is its delay.");
        Expect.holds(BoxEdgesTest::delayAgain, "T When the other holder turns a key of a half-open box,"
                + " it becomes pending, and its remaining delay is its delay.");
        Expect.holds(BoxEdgesTest::opensAtOnce,
                "T A pending box whose remaining delay is 0 opens if the tide is low, at once or later.");
        Expect.holds(BoxEdgesTest::opensLater,
                "T A pending box whose remaining delay is 0 opens if the tide is low, at once or later.");
    }

    private static void countDown() {
        String first = "T First, if the tide is low, the remaining delay of every pending box decreases by 1,"
                + " but not below 0.";
        Expect.holds(BoxEdgesTest::delayAtTheEndOfTheTide, first);
        Expect.holds(BoxEdgesTest::delayRestsInHighTide, first);
        Expect.holds(BoxEdgesTest::delayNotBelow0, first);
        Expect.holds(BoxEdgesTest::delayOfEveryPendingBox, first);
        Expect.holds(BoxEdgesTest::lastMinuteOfADelay,
                "T Third, if the tide is low then, every pending box whose remaining delay is 0 opens.");
        Expect.holds(BoxEdgesTest::delayEndsWithTheTide,
                "T Third, if the tide is low then, every pending box whose remaining delay is 0 opens.");
        Expect.holds(BoxEdgesTest::tenBoxesOpen,
                "T Third, if the tide is low then, every pending box whose remaining delay is 0 opens.",
                "T In every minute four things happen, each for all boxes in the order of their numbers.");
    }

    private static void closing() {
        String fourth = "T Fourth, every half-open box that became half open 5 minutes before or earlier becomes closed,"
                + " and every open box that was opened 10 minutes before or earlier becomes closed.";
        Expect.holds(BoxEdgesTest::halfOpenFor5Minutes, fourth);
        Expect.holds(BoxEdgesTest::halfOpenAgain, fourth);
        Expect.holds(BoxEdgesTest::otherKeyAfter4Minutes, fourth);
        Expect.holds(BoxEdgesTest::openFor10Minutes, fourth);
        Expect.holds(BoxEdgesTest::openAgain, fourth);
        Expect.holds(BoxEdgesTest::openSinceItOpened, fourth);
        Expect.holds(BoxEdgesTest::depositsDoNotProlong, fourth);
        Expect.holds(BoxEdgesTest::pendingForever, fourth);
    }

    private static void order() {
        String order = "T In every minute four things happen, each for all boxes in the order of their numbers.";
        Expect.holds(BoxEdgesTest::opensBeforeItCloses, order);
        Expect.holds(BoxEdgesTest::closesInOrder, order);
        Expect.holds(BoxEdgesTest::manyMinutesAreSingleMinutes, order);
    }

    private static void close() {
        Expect.holds(BoxEdgesTest::closeOfMissing, "P9 Throws `IndexOutOfBoundsException` if the box does not exist",
                "P9 - `box`: the box");
        Expect.holds(BoxEdgesTest::closeOfClosed, "P9 Throws `IllegalStateException` if the box is closed");
        Expect.holds(BoxEdgesTest::closeOfAll,
                "P9 Closes a box, by which a pending or half-open box becomes closed, too.");
        Expect.holds(BoxEdgesTest::pearlsOfClosed, "P9 Returns the number of pearls in the box.");
    }

    private static void passAndAnswers() {
        Expect.holds(BoxEdgesTest::passRange, "P10 - `minutes`: the number of minutes, 1 to 240",
                "P10 Throws `IllegalArgumentException` if the number is out of range");
        Expect.holds(BoxEdgesTest::passCounts,
                "P10 Returns the number of boxes that open in these minutes, each counted as often as it opens.");
        Expect.holds(BoxEdgesTest::statusOfMissing, "P22 Throws `IndexOutOfBoundsException` if the box does not exist");
        Expect.holds(BoxEdgesTest::everyStatus,
                "P22 Returns 'c' for closed, 'h' for half open, 'p' for pending, 'o' for open.");
        Expect.holds(BoxEdgesTest::delayOfMissing, "P24 Throws `IndexOutOfBoundsException` if the box does not exist");
        Expect.holds(BoxEdgesTest::delayOfOthers, "P24 Throws `NoSuchElementException` if the box is not pending");
        Expect.holds(BoxEdgesTest::delayFrom60To0, "P24 Returns the remaining delay.");
    }

    private static void firstKey() {
        TideVault vault = Vaults.withBoxes(0, 0);
        Expect.due('h', vault.turnKey(0, 0, 100));
        Expect.due('h', vault.turnKey(1, 1, 101));
        Expect.due(0, vault.firstHolder(0));
        Expect.due(1, vault.firstHolder(1));
    }

    private static void otherKey() {
        TideVault vault = Vaults.withBoxes(1, 60);
        Expect.due('p', Vaults.turnBoth(vault, 0));
        Expect.due(1, vault.remainingDelay(0));
        Expect.due('p', Vaults.turnBoth(vault, 1));
        Expect.due(60, vault.remainingDelay(1));
    }

    private static void delayAgain() {
        TideVault vault = Vaults.withBoxes(20);
        Vaults.turnBoth(vault, 0);
        vault.pass(19);
        Expect.due(1, vault.remainingDelay(0));
        vault.close(0);
        Vaults.turnBoth(vault, 0);
        Expect.due(20, vault.remainingDelay(0));
    }

    private static void opensAtOnce() {
        TideVault vault = Vaults.withBoxes(0, 0);
        Expect.due('o', Vaults.turnBoth(vault, 0));
        vault.pass(59);
        Expect.due('o', Vaults.turnBoth(vault, 1));
        Expect.due("o0@0 c0@10 o1@59", Vaults.events(vault));
    }

    private static void opensLater() {
        TideVault vault = Vaults.withBoxes(0);
        vault.pass(60);
        Expect.due('p', Vaults.turnBoth(vault, 0));
        Expect.due(0, vault.remainingDelay(0));
        Expect.due(0, vault.pass(179));
        Expect.due('p', vault.status(0));
        Expect.due(1, vault.pass(1));
        Expect.due("o0@240", Vaults.events(vault));
    }

    private static void delayAtTheEndOfTheTide() {
        TideVault vault = Vaults.withBoxes(9);
        vault.pass(58);
        Vaults.turnBoth(vault, 0);
        vault.pass(1);
        Expect.due(8, vault.remainingDelay(0));
        vault.pass(1);
        Expect.due(7, vault.remainingDelay(0));
        vault.pass(1);
        Expect.due(7, vault.remainingDelay(0));
    }

    private static void delayRestsInHighTide() {
        TideVault vault = Vaults.withBoxes(2);
        vault.pass(60);
        Vaults.turnBoth(vault, 0);
        vault.pass(179);
        Expect.due(2, vault.remainingDelay(0));
        vault.pass(1);
        Expect.due(true, vault.isLowTide());
        Expect.due(2, vault.remainingDelay(0));
        vault.pass(1);
        Expect.due(1, vault.remainingDelay(0));
        Expect.due(1, vault.pass(1));
        Expect.due("o0@242", Vaults.events(vault));
    }

    private static void delayNotBelow0() {
        TideVault vault = Vaults.withBoxes(0, 1);
        vault.pass(60);
        Vaults.turnBoth(vault, 0);
        Vaults.turnBoth(vault, 1);
        vault.setTide(100, 61);
        Expect.due(true, vault.isLowTide());
        Expect.due(0, vault.pass(1));
        Expect.due(0, vault.remainingDelay(0));
        Expect.due(0, vault.remainingDelay(1));
        Expect.due(0, vault.pass(38));
        Expect.due(2, vault.pass(1));
        Expect.due("o0@100 o1@100", Vaults.events(vault));
    }

    private static void delayOfEveryPendingBox() {
        TideVault vault = Vaults.withBoxes(60, 59, 58, 57, 56, 55, 54, 53, 52, 51);
        for (int box = 0; box < 10; box += 3) {
            Vaults.turnBoth(vault, box);
        }
        vault.turnKey(1, 0, 100);
        vault.pass(3);
        for (int box = 0; box < 10; box += 3) {
            Expect.due(57 - box, vault.remainingDelay(box));
        }
        Expect.due('h', vault.status(1));
        vault.turnKey(1, 1, 101);
        Expect.due(59, vault.remainingDelay(1));
    }

    private static void lastMinuteOfADelay() {
        TideVault vault = Vaults.withBoxes(1, 1);
        Vaults.turnBoth(vault, 0);
        Expect.due(1, vault.pass(1));
        vault.pass(57);
        Vaults.turnBoth(vault, 1);
        Expect.due(1, vault.pass(1));
        Expect.due("o0@1 c0@11 o1@59", Vaults.events(vault));
    }

    private static void delayEndsWithTheTide() {
        TideVault vault = Vaults.withBoxes(1);
        vault.pass(59);
        Vaults.turnBoth(vault, 0);
        Expect.due(0, vault.pass(1));
        Expect.due('p', vault.status(0));
        Expect.due(0, vault.remainingDelay(0));
        Expect.due(0, vault.pass(179));
        Expect.due(1, vault.pass(1));
        Expect.due("o0@240", Vaults.events(vault));
    }

    private static void tenBoxesOpen() {
        TideVault vault = Vaults.withBoxes(0, 0, 0, 0, 0, 0, 0, 0, 0, 0);
        vault.pass(60);
        for (int box = 9; box >= 0; box--) {
            Vaults.turnBoth(vault, box);
        }
        Expect.due(10, vault.pass(180));
        Expect.due("o0@240 o1@240 o2@240 o3@240 o4@240 o5@240 o6@240 o7@240 o8@240 o9@240", Vaults.events(vault));
    }

    private static void halfOpenFor5Minutes() {
        TideVault vault = Vaults.withBoxes(0);
        vault.pass(3);
        vault.turnKey(0, 0, 100);
        vault.pass(4);
        Expect.due('h', vault.status(0));
        vault.pass(1);
        Expect.due('c', vault.status(0));
        Expect.due(0, vault.events());
        vault.turnKey(0, 0, 100);
        vault.pass(240);
        Expect.due('c', vault.status(0));
    }

    private static void halfOpenAgain() {
        TideVault vault = Vaults.withBoxes(0);
        vault.turnKey(0, 0, 100);
        vault.pass(3);
        vault.close(0);
        vault.turnKey(0, 1, 101);
        vault.pass(4);
        Expect.due('h', vault.status(0));
        vault.pass(1);
        Expect.due('c', vault.status(0));
    }

    private static void otherKeyAfter4Minutes() {
        TideVault vault = Vaults.withBoxes(60);
        vault.turnKey(0, 0, 100);
        vault.pass(4);
        Expect.due('p', vault.turnKey(0, 1, 101));
        vault.pass(1);
        Expect.due('p', vault.status(0));
        Expect.due(59, vault.remainingDelay(0));
    }

    private static void openFor10Minutes() {
        TideVault vault = Vaults.withBoxes(0);
        vault.pass(3);
        Vaults.turnBoth(vault, 0);
        vault.pass(9);
        Expect.due('o', vault.status(0));
        vault.pass(1);
        Expect.due('c', vault.status(0));
        Expect.due("o0@3 c0@13", Vaults.events(vault));
    }

    private static void openAgain() {
        TideVault vault = Vaults.withBoxes(0);
        Vaults.turnBoth(vault, 0);
        vault.pass(8);
        vault.close(0);
        Vaults.turnBoth(vault, 0);
        vault.pass(9);
        Expect.due('o', vault.status(0));
        vault.pass(1);
        Expect.due('c', vault.status(0));
        Expect.due("o0@0 c0@8 o0@8 c0@18", Vaults.events(vault));
    }

    private static void openSinceItOpened() {
        TideVault vault = Vaults.withBoxes(0, 7);
        vault.turnKey(0, 0, 100);
        Vaults.turnBoth(vault, 1);
        vault.pass(4);
        vault.turnKey(0, 1, 101);
        vault.pass(9);
        Expect.due('o', vault.status(0));
        Expect.due('o', vault.status(1));
        vault.pass(4);
        Expect.due("o0@4 o1@7 c0@14 c1@17", Vaults.events(vault));
    }

    private static void depositsDoNotProlong() {
        TideVault vault = Vaults.withBoxes(0);
        Vaults.turnBoth(vault, 0);
        vault.pass(9);
        vault.deposit(0, 5);
        vault.deposit(0, 6);
        vault.withdraw(0);
        vault.pass(1);
        Expect.due('c', vault.status(0));
        Expect.due(1, vault.pearls(0));
    }

    private static void pendingForever() {
        TideVault vault = Vaults.withBoxes(60);
        vault.setTide(480, 10);
        vault.pass(10);
        Vaults.turnBoth(vault, 0);
        Vaults.passAll(vault, 3349);
        Expect.due('p', vault.status(0));
        Expect.due(0, vault.events());
        Expect.due(1, vault.pass(1));
    }

    private static void opensBeforeItCloses() {
        TideVault vault = Vaults.withBoxes(0, 10);
        Vaults.turnBoth(vault, 0);
        Vaults.turnBoth(vault, 1);
        vault.pass(10);
        Expect.due("o0@0 o1@10 c0@10", Vaults.events(vault));
        vault.pass(10);
        Expect.due("o0@0 o1@10 c0@10 c1@20", Vaults.events(vault));
    }

    private static void closesInOrder() {
        TideVault vault = Vaults.withBoxes(0, 0, 0);
        Vaults.turnBoth(vault, 2);
        Vaults.turnBoth(vault, 0);
        Vaults.turnBoth(vault, 1);
        vault.pass(10);
        Expect.due("o2@0 o0@0 o1@0 c0@10 c1@10 c2@10", Vaults.events(vault));
    }

    private static void manyMinutesAreSingleMinutes() {
        TideVault many = Vaults.withBoxes(0, 5, 30, 60);
        TideVault single = Vaults.withBoxes(0, 5, 30, 60);
        for (TideVault vault : new TideVault[] {many, single}) {
            vault.pass(50);
            for (int box = 0; box < 4; box++) {
                Vaults.turnBoth(vault, box);
            }
            Vaults.tellWrong(vault, 2, 3);
        }
        int opened = 0;
        for (int i = 0; i < 240; i++) {
            opened += single.pass(1);
        }
        Expect.due(opened, many.pass(240));
        Expect.due(Vaults.seen(single), Vaults.seen(many));
    }

    private static void closeOfMissing() {
        TideVault empty = Vaults.withHolders(2);
        Expect.throwing(INDEX, () -> empty.close(0));
        TideVault vault = Vaults.withBoxes(0);
        Expect.throwing(INDEX, () -> vault.close(-1));
        Expect.throwing(INDEX, () -> vault.close(1));
        Expect.throwing(INDEX, () -> vault.close(10));
        Expect.throwing(INDEX, () -> vault.close(Integer.MIN_VALUE));
        Expect.throwing(INDEX, () -> vault.close(Integer.MAX_VALUE));
    }

    private static void closeOfClosed() {
        TideVault vault = Vaults.withBoxes(0);
        Expect.throwing(STATE, () -> vault.close(0));
        vault.turnKey(0, 0, 100);
        vault.pass(5);
        Expect.throwing(STATE, () -> vault.close(0));
        Vaults.turnBoth(vault, 0);
        vault.pass(10);
        Expect.throwing(STATE, () -> vault.close(0));
        Expect.due("o0@5 c0@15", Vaults.events(vault));
    }

    private static void closeOfAll() {
        TideVault vault = Vaults.withBoxes(0, 60, 0);
        vault.turnKey(0, 0, 100);
        Vaults.turnBoth(vault, 1);
        Vaults.turnBoth(vault, 2);
        for (int box = 0; box < 3; box++) {
            Expect.due(0, vault.close(box));
            Expect.due('c', vault.status(box));
        }
        Expect.due("o2@0 c2@0", Vaults.events(vault));
        Expect.due(0, vault.pass(240));
        Expect.due("o2@0 c2@0", Vaults.events(vault));
    }

    private static void pearlsOfClosed() {
        TideVault vault = Vaults.withBoxes(0);
        Vaults.turnBoth(vault, 0);
        for (int i = 0; i < 5; i++) {
            vault.deposit(0, 9);
        }
        Expect.due(5, vault.close(0));
        vault.turnKey(0, 0, 100);
        Expect.due(5, vault.close(0));
        Expect.due(5, vault.pearls(0));
    }

    private static void passRange() {
        TideVault vault = new TideVault();
        Expect.throwing(ARGUMENT, () -> vault.pass(0));
        Expect.throwing(ARGUMENT, () -> vault.pass(241));
        Expect.throwing(ARGUMENT, () -> vault.pass(-1));
        Expect.throwing(ARGUMENT, () -> vault.pass(Integer.MIN_VALUE));
        Expect.throwing(ARGUMENT, () -> vault.pass(Integer.MAX_VALUE));
        Expect.due(0, vault.time());
        vault.pass(1);
        Expect.due(1, vault.time());
        vault.pass(240);
        Expect.due(241, vault.time());
    }

    private static void passCounts() {
        TideVault vault = Vaults.withBoxes(0, 1, 2, 3);
        Vaults.turnBoth(vault, 0);
        Expect.due(0, vault.pass(50));
        Vaults.turnBoth(vault, 1);
        Vaults.turnBoth(vault, 2);
        Vaults.turnBoth(vault, 3);
        Expect.due(2, vault.pass(2));
        Expect.due(1, vault.pass(240));
        Expect.due(0, vault.pass(240));
        Expect.due(2, Vaults.run(vault, "turn 1 0=100;turn 1 1=101"));
        Expect.due(1, vault.pass(240));
        Vaults.turnBoth(vault, 1);
        Expect.due(1, vault.pass(240));
    }

    private static void statusOfMissing() {
        TideVault empty = Vaults.withHolders(2);
        Expect.throwing(INDEX, () -> empty.status(0));
        TideVault vault = Vaults.withBoxes(0);
        Expect.throwing(INDEX, () -> vault.status(-1));
        Expect.throwing(INDEX, () -> vault.status(1));
        Expect.throwing(INDEX, () -> vault.status(10));
        Expect.throwing(INDEX, () -> vault.status(Integer.MIN_VALUE));
        Expect.throwing(INDEX, () -> vault.status(Integer.MAX_VALUE));
    }

    private static void everyStatus() {
        TideVault vault = Vaults.withBoxes(1);
        Expect.due('c', vault.status(0));
        vault.turnKey(0, 0, 100);
        Expect.due('h', vault.status(0));
        vault.turnKey(0, 1, 101);
        Expect.due('p', vault.status(0));
        vault.pass(1);
        Expect.due('o', vault.status(0));
        vault.pass(10);
        Expect.due('c', vault.status(0));
    }

    private static void delayOfMissing() {
        TideVault empty = Vaults.withHolders(2);
        Expect.throwing(INDEX, () -> empty.remainingDelay(0));
        TideVault vault = Vaults.withBoxes(5);
        Vaults.turnBoth(vault, 0);
        Expect.throwing(INDEX, () -> vault.remainingDelay(-1));
        Expect.throwing(INDEX, () -> vault.remainingDelay(1));
        Expect.throwing(INDEX, () -> vault.remainingDelay(10));
        Expect.throwing(INDEX, () -> vault.remainingDelay(Integer.MIN_VALUE));
        Expect.throwing(INDEX, () -> vault.remainingDelay(Integer.MAX_VALUE));
    }

    private static void delayOfOthers() {
        TideVault vault = Vaults.withBoxes(1);
        Expect.throwing(ELEMENT, () -> vault.remainingDelay(0));
        vault.turnKey(0, 0, 100);
        Expect.throwing(ELEMENT, () -> vault.remainingDelay(0));
        vault.turnKey(0, 1, 101);
        Expect.due(1, vault.remainingDelay(0));
        vault.pass(1);
        Expect.throwing(ELEMENT, () -> vault.remainingDelay(0));
        vault.close(0);
        Expect.throwing(ELEMENT, () -> vault.remainingDelay(0));
    }

    private static void delayFrom60To0() {
        TideVault vault = Vaults.withBoxes(60);
        Vaults.turnBoth(vault, 0);
        for (int left = 60; left > 0; left--) {
            Expect.due(left, vault.remainingDelay(0));
            vault.pass(1);
        }
        Expect.due(false, vault.isLowTide());
        Expect.due(0, vault.remainingDelay(0));
    }
}
