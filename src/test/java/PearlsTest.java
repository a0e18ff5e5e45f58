import java.util.NoSuchElementException;

/** Promises 7 to 9 and 27 to 32. */
public final class PearlsTest {
    private static final Class<IllegalArgumentException> ARGUMENT = IllegalArgumentException.class;
    private static final Class<IllegalStateException> STATE = IllegalStateException.class;
    private static final Class<IndexOutOfBoundsException> INDEX = IndexOutOfBoundsException.class;
    private static final Class<NoSuchElementException> ELEMENT = NoSuchElementException.class;

    public static void main(String[] args) {
        deposit();
        withdraw();
        close();
        pearls();
        boxByValue();
        sums();
        Expect.finish();
    }

    private static void deposit() {
        Expect.promise(7, "deposit");
        TideVault vault = Vaults.withBoxes(0, 1);
        Expect.throwing(INDEX, () -> vault.deposit(-1, 5));
        Expect.throwing(INDEX, () -> vault.deposit(2, 0));
        Expect.throwing(ARGUMENT, () -> vault.deposit(0, 0));
        Expect.throwing(ARGUMENT, () -> vault.deposit(0, 100));
        Expect.throwing(STATE, () -> vault.deposit(0, 5));
        vault.turnKey(0, 0, 100);
        Expect.throwing(STATE, () -> vault.deposit(0, 5));
        vault.turnKey(0, 1, 101);
        Vaults.turnBoth(vault, 1);
        Expect.throwing(STATE, () -> vault.deposit(1, 5));
        Expect.due(1, vault.deposit(0, 1));
        Expect.due(2, vault.deposit(0, 99));
        Expect.due(3, vault.deposit(0, 1));
        Expect.due(4, vault.deposit(0, 2));
        Expect.due(5, vault.deposit(0, 3));
        Expect.throwing(STATE, () -> vault.deposit(0, 3));
        Expect.throwing(ARGUMENT, () -> vault.deposit(0, -3));
        Expect.due(5, vault.pearls(0));
        Expect.due("o0@0 d0@0 d0@0 d0@0 d0@0 d0@0", Vaults.events(vault));
        vault.withdraw(0);
        Expect.due(5, vault.deposit(0, 9));
    }

    private static void withdraw() {
        Expect.promise(8, "withdraw");
        TideVault vault = Vaults.withBoxes(0);
        Expect.throwing(INDEX, () -> vault.withdraw(-1));
        Expect.throwing(INDEX, () -> vault.withdraw(1));
        Expect.throwing(STATE, () -> vault.withdraw(0));
        Vaults.turnBoth(vault, 0);
        Expect.throwing(ELEMENT, () -> vault.withdraw(0));
        for (int value : new int[] {4, 9, 7, 9, 9}) {
            vault.deposit(0, value);
        }
        Expect.due(9, vault.withdraw(0));
        Expect.due("0o:4,7,9,9", Vaults.line(vault, vault.writeBox(0)));
        Expect.due(9, vault.withdraw(0));
        Expect.due("0o:4,7,9", Vaults.line(vault, vault.writeBox(0)));
        Expect.due(9, vault.withdraw(0));
        Expect.due(7, vault.withdraw(0));
        vault.pass(3);
        Expect.due(4, vault.withdraw(0));
        Expect.due("d0@0 d0@0 d0@0 d0@0 d0@0 w0@0 w0@0 w0@0 w0@0 w0@3",
                Vaults.events(vault).replace("o0@0 ", ""));
        Expect.throwing(ELEMENT, () -> vault.withdraw(0));
        vault.deposit(0, 5);
        vault.close(0);
        Expect.throwing(STATE, () -> vault.withdraw(0));
        Expect.due(1, vault.pearls(0));
    }

    private static void close() {
        Expect.promise(9, "close");
        TideVault vault = Vaults.withBoxes(0, 5);
        Expect.throwing(INDEX, () -> vault.close(-1));
        Expect.throwing(INDEX, () -> vault.close(2));
        Expect.throwing(STATE, () -> vault.close(0));
        vault.turnKey(0, 0, 100);
        Expect.due(0, vault.close(0));
        Expect.due('c', vault.status(0));
        Expect.throwing(STATE, () -> vault.close(0));
        Vaults.turnBoth(vault, 1);
        Expect.due(0, vault.close(1));
        Expect.due('c', vault.status(1));
        Expect.due(0, vault.events());
        Vaults.turnBoth(vault, 0);
        vault.deposit(0, 5);
        vault.deposit(0, 6);
        vault.pass(2);
        Expect.due(2, vault.close(0));
        Expect.due("o0@0 d0@0 d0@0 c0@2", Vaults.events(vault));
        Expect.due(2, vault.pearls(0));
        Expect.due(0, vault.pass(100));
        Expect.due('c', vault.status(1));
    }

    private static void pearls() {
        Expect.promise(27, "pearls");
        TideVault vault = Vaults.withBoxes(0, 0);
        Expect.throwing(INDEX, () -> vault.pearls(-1));
        Expect.throwing(INDEX, () -> vault.pearls(2));
        Vaults.turnBoth(vault, 1);
        vault.deposit(1, 30);
        vault.deposit(1, 20);
        Expect.due(0, vault.pearls(0));
        Expect.due(2, vault.pearls(1));

        Expect.promise(28, "pearl");
        Expect.throwing(INDEX, () -> vault.pearl(-1, 0));
        Expect.throwing(INDEX, () -> vault.pearl(2, 9));
        Expect.throwing(ELEMENT, () -> vault.pearl(0, 0));
        Expect.throwing(ELEMENT, () -> vault.pearl(1, -1));
        Expect.throwing(ELEMENT, () -> vault.pearl(1, 2));
        Expect.due(30, vault.pearl(1, 0));
        Expect.due(20, vault.pearl(1, 1));
        vault.withdraw(1);
        Expect.due(20, vault.pearl(1, 0));
        Expect.throwing(ELEMENT, () -> vault.pearl(1, 1));
    }

    private static void boxByValue() {
        Expect.promise(29, "boxByValue");
        TideVault vault = Vaults.withBoxes(0, 0, 0, 0);
        Expect.throwing(ELEMENT, () -> vault.boxByValue(-1));
        Expect.throwing(ELEMENT, () -> vault.boxByValue(4));
        for (int i = 0; i < 4; i++) {
            Expect.due(i, vault.boxByValue(i));
        }
        Vaults.turnBoth(vault, 1);
        Vaults.turnBoth(vault, 2);
        Vaults.turnBoth(vault, 3);
        vault.deposit(1, 50);
        vault.deposit(2, 30);
        vault.deposit(2, 21);
        vault.deposit(3, 25);
        vault.deposit(3, 25);
        Expect.due(2, vault.boxByValue(0));
        Expect.due(1, vault.boxByValue(1));
        Expect.due(3, vault.boxByValue(2));
        Expect.due(0, vault.boxByValue(3));
    }

    private static void sums() {
        Expect.promise(30, "totalValue");
        TideVault vault = Vaults.withBoxes(0, 0);
        Expect.promise(32, "meanValue");
        Expect.throwing(ArithmeticException.class, vault::meanValue);
        Vaults.turnBoth(vault, 0);
        Vaults.turnBoth(vault, 1);
        vault.deposit(0, 99);
        vault.deposit(1, 20);
        vault.deposit(1, 1);
        Expect.due(40.0, vault.meanValue());
        vault.deposit(0, 2);
        vault.withdraw(0);
        Expect.due(23.0 / 3.0, vault.meanValue());
        Expect.promise(30, "totalValue");
        Expect.due(23L, vault.totalValue());
        Expect.promise(31, "totalValueByLedger");
        Expect.due(23L, vault.totalValueByLedger());
        vault.undo();
        Expect.due(122L, vault.totalValueByLedger());
        Expect.promise(30, "totalValue");
        Expect.due(122L, vault.totalValue());
        vault.withdraw(0);
        vault.withdraw(0);
        vault.withdraw(1);
        vault.withdraw(1);
        Expect.promise(32, "meanValue");
        Expect.throwing(ArithmeticException.class, vault::meanValue);
    }
}
