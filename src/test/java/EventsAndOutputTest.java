import java.util.NoSuchElementException;

/** Promises 34 to 37 and 39 to 41. */
public final class EventsAndOutputTest {
    private static final Class<IndexOutOfBoundsException> INDEX = IndexOutOfBoundsException.class;
    private static final Class<NoSuchElementException> ELEMENT = NoSuchElementException.class;

    public static void main(String[] args) {
        noEvents();
        events();
        ring();
        writeBox();
        writeEvents();
        Expect.finish();
    }

    private static void noEvents() {
        TideVault vault = new TideVault();
        Expect.promise(34, "events");
        Expect.due(0, vault.events());
        Expect.promise(35, "eventKind");
        Expect.throwing(ELEMENT, () -> vault.eventKind(0));
        Expect.throwing(ELEMENT, () -> vault.eventKind(-1));
        Expect.promise(36, "eventTime");
        Expect.throwing(ELEMENT, () -> vault.eventTime(0));
        Expect.throwing(ELEMENT, () -> vault.eventTime(-1));
        Expect.promise(37, "eventNumber");
        Expect.throwing(ELEMENT, () -> vault.eventNumber(0));
        Expect.throwing(ELEMENT, () -> vault.eventNumber(-1));
    }

    private static void events() {
        TideVault vault = Vaults.withBoxes(0, 0);
        vault.pass(3);
        Vaults.turnBoth(vault, 1);
        vault.deposit(1, 8);
        vault.pass(1);
        vault.withdraw(1);
        vault.pass(9);
        Vaults.tellWrong(vault, 2, 3);
        Expect.promise(34, "events");
        Expect.due(8, vault.events());
        Expect.promise(35, "eventKind");
        Expect.due('o', vault.eventKind(0));
        Expect.due('d', vault.eventKind(1));
        Expect.due('w', vault.eventKind(2));
        Expect.due('c', vault.eventKind(3));
        Expect.due('f', vault.eventKind(6));
        Expect.due('l', vault.eventKind(7));
        Expect.throwing(ELEMENT, () -> vault.eventKind(8));
        Expect.promise(36, "eventTime");
        Expect.due(3, vault.eventTime(0));
        Expect.due(3, vault.eventTime(1));
        Expect.due(4, vault.eventTime(2));
        Expect.due(13, vault.eventTime(3));
        Expect.throwing(ELEMENT, () -> vault.eventTime(8));
        Expect.promise(37, "eventNumber");
        Expect.due(1, vault.eventNumber(3));
        Expect.due(2, vault.eventNumber(4));
        Expect.due(2, vault.eventNumber(7));
        Expect.throwing(ELEMENT, () -> vault.eventNumber(8));
    }

    private static void ring() {
        Expect.promise(34, "the 12 latest events");
        TideVault vault = Vaults.withBoxes(0);
        Vaults.turnBoth(vault, 0);
        for (int i = 1; i <= 5; i++) {
            vault.deposit(0, i);
        }
        vault.pass(1);
        for (int i = 1; i <= 5; i++) {
            vault.withdraw(0);
        }
        Expect.due(11, vault.events());
        vault.pass(1);
        vault.deposit(0, 1);
        Expect.due(12, vault.events());
        Expect.due("o0@0", Vaults.events(vault).substring(0, 4));
        vault.withdraw(0);
        vault.deposit(0, 2);
        Expect.due(12, vault.events());
        Expect.due("d0@0 d0@0 d0@0 d0@0 w0@1 w0@1 w0@1 w0@1 w0@1 d0@2 w0@2 d0@2", Vaults.events(vault));
        Expect.throwing(ELEMENT, () -> vault.eventKind(12));
        for (int i = 0; i < 15; i++) {
            vault.withdraw(0);
            vault.deposit(0, 2);
        }
        Expect.due("w0 d0 w0 d0 w0 d0 w0 d0 w0 d0 w0 d0", Vaults.line(vault, vault.writeEvents()));
        Expect.due(35, vault.writeEvents());
    }

    private static void writeBox() {
        Expect.promise(39, "writeBox");
        TideVault vault = Vaults.withBoxes(0, 4, 0, 0, 0, 0, 0, 0, 0, 0);
        Expect.due(3, vault.writeBox(0));
        Expect.due("0c:", Vaults.line(vault, 3));
        vault.turnKey(0, 0, 100);
        Expect.due("0h:", Vaults.line(vault, vault.writeBox(0)));
        Vaults.turnBoth(vault, 1);
        Expect.due("1p:", Vaults.line(vault, vault.writeBox(1)));
        Vaults.turnBoth(vault, 9);
        vault.deposit(9, 7);
        Expect.due("9o:7", Vaults.line(vault, vault.writeBox(9)));
        vault.deposit(9, 99);
        vault.deposit(9, 10);
        vault.deposit(9, 9);
        vault.deposit(9, 50);
        Expect.due("9o:7,99,10,9,50", Vaults.line(vault, vault.writeBox(9)));
        Expect.throwing(INDEX, () -> vault.writeBox(10));
        Expect.throwing(INDEX, () -> vault.writeBox(-1));
        Expect.due("9o:7,99,10,9,50", Vaults.line(vault, 15));
        Expect.promise(41, "charAt");
        Expect.throwing(INDEX, () -> vault.charAt(15));
        vault.writeBox(1);
        Expect.throwing(INDEX, () -> vault.charAt(3));
    }

    private static void writeEvents() {
        Expect.promise(41, "charAt");
        TideVault vault = Vaults.withBoxes(0);
        Expect.throwing(INDEX, () -> vault.charAt(0));
        Expect.throwing(INDEX, () -> vault.charAt(-1));
        vault.writeBox(0);
        Expect.due('0', vault.charAt(0));
        Expect.due('c', vault.charAt(1));
        Expect.due(':', vault.charAt(2));
        Expect.throwing(INDEX, () -> vault.charAt(3));
        Expect.throwing(INDEX, () -> vault.charAt(-1));
        Expect.throwing(INDEX, () -> vault.charAt(Integer.MAX_VALUE));

        Expect.promise(40, "writeEvents");
        Expect.due(0, vault.writeEvents());
        Expect.throwing(INDEX, () -> vault.charAt(0));
        Vaults.tellWrong(vault, 1, 2);
        Vaults.turnBoth(vault, 0);
        vault.deposit(0, 9);
        Expect.due("f1 f1 o0 d0", Vaults.line(vault, vault.writeEvents()));
        Expect.due(11, vault.writeEvents());
        vault.undo();
        Expect.due("f1 f1 o0 d0", Vaults.line(vault, 11));
    }
}
