import java.util.NoSuchElementException;

/** Boundaries of events and of the output line: promises 34 to 37, 40 and 41. */
public final class EventEdgesTest {
    private static final Class<IndexOutOfBoundsException> INDEX = IndexOutOfBoundsException.class;
    private static final Class<NoSuchElementException> ELEMENT = NoSuchElementException.class;

    public static void main(String[] args) {
        kept();
        kinds();
        line();
        Expect.finish();
    }

    private static void kept() {
        Expect.holds(EventEdgesTest::twelve,
                "T The 12 latest events are kept, numbered from 0 for the oldest one that is kept.",
                "P34 Returns the number of events, at most 12.");
        Expect.holds(EventEdgesTest::manyRounds,
                "T The 12 latest events are kept, numbered from 0 for the oldest one that is kept.");
        Expect.holds(EventEdgesTest::lockOutAtTheEdge,
                "T The 12 latest events are kept, numbered from 0 for the oldest one that is kept.");
        Expect.holds(EventEdgesTest::undoOfADroppedEvent,
                "T The 12 latest events are kept, numbered from 0 for the oldest one that is kept.");
        Expect.holds(EventEdgesTest::missingKind, "P35 Throws `NoSuchElementException` if there is no such event",
                "P35 - `event`: the number of the event");
        Expect.holds(EventEdgesTest::missingTime, "P36 Throws `NoSuchElementException` if there is no such event",
                "P36 - `event`: the number of the event");
        Expect.holds(EventEdgesTest::missingNumber, "P37 Throws `NoSuchElementException` if there is no such event",
                "P37 - `event`: the number of the event");
    }

    private static void kinds() {
        Expect.holds(EventEdgesTest::wrongCodeThenLockOut,
                "T A wrong code that leads to a lock-out is logged first, and then the lock-out.");
        Expect.holds(EventEdgesTest::onlyOpenBoxesAreLogged, "T 'c' when a box that was open becomes closed");
        Expect.holds(EventEdgesTest::everyKind,
                "T An event has a kind, a time and a number: 'f' for a wrong code and 'l' for a lock-out, with the number"
                        + " of the holder; 'o' when a box opens, 'c' when a box that was open becomes closed, 'd' for a"
                        + " deposit and 'w' for a withdrawal, with the number of the box.",
                "P37 Returns the number of the holder or of the box.", "P35 Returns the kind.",
                "P36 Returns the time.");
        Expect.holds(EventEdgesTest::highestNumbers, "P37 Returns the number of the holder or of the box.");
    }

    private static void line() {
        Expect.holds(EventEdgesTest::noEvents, "P40 The line is empty if there are no events.");
        Expect.holds(EventEdgesTest::oneEvent, "P40 its kind and its number, with a blank between two");
        Expect.holds(EventEdgesTest::exampleLine, "P40 for example \"f1 f1 o0 d0\".",
                "P40 Returns the length of the line.");
        Expect.holds(EventEdgesTest::longestLine, "P40 its kind and its number, with a blank between two",
                "P40 Returns the length of the line.");
        Expect.holds(EventEdgesTest::lineIsReplaced,
                "P40 Writes the events to the output line, which replaces its old content");
        Expect.holds(EventEdgesTest::emptyLine,
                "P41 Returns a character of the output line, which is initially empty.");
        Expect.holds(EventEdgesTest::indexRange,
                "P41 Throws `IndexOutOfBoundsException` if the index is negative or not less than the length",
                "P41 - `index`: the index, counted from 0");
    }

    /** An open box 0 and, with o0, this number of events in all, of the kinds d and w in turn. */
    private static TideVault withEvents(int number) {
        TideVault vault = Vaults.withBoxes(0, 0);
        if (number > 0) {
            Vaults.turnBoth(vault, 0);
        }
        for (int i = 1; i < number; i++) {
            if (i % 2 == 1) {
                vault.deposit(0, 9);
            } else {
                vault.withdraw(0);
            }
        }
        return vault;
    }

    private static void twelve() {
        for (int number = 0; number <= 14; number++) {
            TideVault vault = withEvents(number);
            Expect.due(Math.min(number, 12), vault.events());
            if (number > 0) {
                Expect.due(number <= 12 ? 'o' : number == 13 ? 'd' : 'w', vault.eventKind(0));
            }
        }
    }

    private static void manyRounds() {
        for (int number : new int[] {23, 24, 25, 26, 36, 37}) {
            TideVault vault = withEvents(number);
            vault.pass(1);
            vault.close(0);
            Expect.due(12, vault.events());
            Expect.due('c', vault.eventKind(11));
            Expect.due(1, vault.eventTime(11));
            Expect.due(number % 2 == 0 ? 'd' : 'w', vault.eventKind(10));
            Expect.due(number % 2 == 0 ? 'w' : 'd', vault.eventKind(1));
            Expect.due(number % 2 == 0 ? 'd' : 'w', vault.eventKind(0));
            Expect.due(0, vault.eventTime(0));
        }
    }

    private static void lockOutAtTheEdge() {
        TideVault vault = withEvents(9);
        Vaults.tellWrong(vault, 2, 3);
        Expect.due("d0 w0 d0 w0 d0 w0 d0 w0 f2 f2 f2 l2", Vaults.line(vault, vault.writeEvents()));
        TideVault full = withEvents(12);
        Vaults.tellWrong(full, 2, 3);
        Expect.due("w0 d0 w0 d0 w0 d0 w0 d0 f2 f2 f2 l2", Vaults.line(full, full.writeEvents()));
    }

    private static void undoOfADroppedEvent() {
        TideVault vault = withEvents(12);
        vault.withdraw(0);
        Expect.due('d', vault.eventKind(0));
        vault.undo();
        Expect.due(12, vault.events());
        Expect.due('o', vault.eventKind(0));
        vault.undo();
        Expect.due(11, vault.events());
        Expect.throwing(ELEMENT, () -> vault.eventKind(11));
    }

    private static void missingKind() {
        TideVault empty = new TideVault();
        Expect.throwing(ELEMENT, () -> empty.eventKind(0));
        TideVault one = withEvents(1);
        Expect.due('o', one.eventKind(0));
        Expect.throwing(ELEMENT, () -> one.eventKind(1));
        TideVault full = withEvents(13);
        Expect.due('w', full.eventKind(11));
        for (int event : new int[] {-1, 12, Integer.MIN_VALUE, Integer.MAX_VALUE}) {
            Expect.throwing(ELEMENT, () -> full.eventKind(event));
        }
    }

    private static void missingTime() {
        TideVault empty = new TideVault();
        Expect.throwing(ELEMENT, () -> empty.eventTime(0));
        TideVault one = withEvents(1);
        Expect.due(0, one.eventTime(0));
        Expect.throwing(ELEMENT, () -> one.eventTime(1));
        TideVault full = withEvents(13);
        Expect.due(0, full.eventTime(11));
        for (int event : new int[] {-1, 12, Integer.MIN_VALUE, Integer.MAX_VALUE}) {
            Expect.throwing(ELEMENT, () -> full.eventTime(event));
        }
    }

    private static void missingNumber() {
        TideVault empty = new TideVault();
        Expect.throwing(ELEMENT, () -> empty.eventNumber(0));
        TideVault one = withEvents(1);
        Expect.due(0, one.eventNumber(0));
        Expect.throwing(ELEMENT, () -> one.eventNumber(1));
        TideVault full = withEvents(13);
        Expect.due(0, full.eventNumber(11));
        for (int event : new int[] {-1, 12, Integer.MIN_VALUE, Integer.MAX_VALUE}) {
            Expect.throwing(ELEMENT, () -> full.eventNumber(event));
        }
    }

    private static void wrongCodeThenLockOut() {
        TideVault vault = Vaults.withHolders(3);
        vault.pass(2);
        Vaults.tellWrong(vault, 2, 3);
        Expect.due("f2@2 f2@2 f2@2 l2@2", Vaults.events(vault));
    }

    private static void onlyOpenBoxesAreLogged() {
        TideVault vault = Vaults.withBoxes(0, 60, 0);
        vault.turnKey(0, 0, 100);
        vault.close(0);
        vault.turnKey(0, 0, 100);
        Vaults.turnBoth(vault, 1);
        vault.pass(5);
        Expect.due('c', vault.status(0));
        vault.close(1);
        Expect.due(0, vault.events());
        Vaults.turnBoth(vault, 2);
        vault.close(2);
        Vaults.turnBoth(vault, 0);
        vault.pass(10);
        Expect.due("o2@5 c2@5 o0@5 c0@15", Vaults.events(vault));
    }

    private static void everyKind() {
        TideVault vault = Vaults.withBoxes(0, 3);
        Vaults.turnBoth(vault, 1);
        vault.pass(3);
        vault.deposit(1, 9);
        vault.pass(1);
        vault.withdraw(1);
        Vaults.tellWrong(vault, 2, 3);
        vault.pass(10);
        Expect.due("o1@3 d1@3 w1@4 f2@4 f2@4 f2@4 l2@4 c1@13", Vaults.events(vault));
    }

    private static void highestNumbers() {
        TideVault vault = Vaults.withHolders(8);
        for (int i = 0; i < 10; i++) {
            vault.addBox(6, 7, 0);
        }
        Vaults.tellWrong(vault, 7, 1);
        vault.turnKey(9, 6, 106);
        vault.turnKey(9, 7, 107);
        Expect.due("f7@0 o9@0", Vaults.events(vault));
    }

    private static void noEvents() {
        TideVault vault = Vaults.withBoxes(0);
        vault.writeBox(0);
        Expect.due(0, vault.writeEvents());
        Expect.due("", Vaults.line(vault));
        Expect.throwing(INDEX, () -> vault.charAt(0));
    }

    private static void oneEvent() {
        TideVault vault = withEvents(1);
        Expect.due(2, vault.writeEvents());
        Expect.due("o0", Vaults.line(vault));
    }

    private static void exampleLine() {
        TideVault vault = Vaults.withBoxes(0);
        Vaults.tellWrong(vault, 1, 2);
        Vaults.turnBoth(vault, 0);
        vault.deposit(0, 9);
        Expect.due(11, vault.writeEvents());
        Expect.due("f1 f1 o0 d0", Vaults.line(vault));
    }

    private static void longestLine() {
        TideVault vault = withEvents(12);
        Expect.due(35, vault.writeEvents());
        Expect.due("o0 d0 w0 d0 w0 d0 w0 d0 w0 d0 w0 d0", Vaults.line(vault));
        vault.withdraw(0);
        Expect.due(35, vault.writeEvents());
        Expect.due("d0 w0 d0 w0 d0 w0 d0 w0 d0 w0 d0 w0", Vaults.line(vault));
    }

    private static void lineIsReplaced() {
        TideVault vault = withEvents(4);
        Expect.due(11, vault.writeEvents());
        vault.undo();
        vault.undo();
        Expect.due("o0 d0 w0 d0", Vaults.line(vault));
        Expect.due(5, vault.writeEvents());
        Expect.due("o0 d0", Vaults.line(vault));
        Expect.due(4, vault.writeBox(0));
        Expect.due("0o:9", Vaults.line(vault));
    }

    private static void emptyLine() {
        TideVault vault = withEvents(3);
        Expect.throwing(INDEX, () -> vault.charAt(0));
        Expect.throwing(INDEX, () -> vault.charAt(-1));
    }

    private static void indexRange() {
        TideVault vault = withEvents(12);
        vault.writeEvents();
        Expect.due('o', vault.charAt(0));
        Expect.due('0', vault.charAt(34));
        for (int index : new int[] {-1, 35, 36, Integer.MIN_VALUE, Integer.MAX_VALUE}) {
            Expect.throwing(INDEX, () -> vault.charAt(index));
        }
        vault.writeBox(0);
        Expect.due('9', vault.charAt(3));
        Expect.throwing(INDEX, () -> vault.charAt(4));
    }
}
