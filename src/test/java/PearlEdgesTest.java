import java.util.NoSuchElementException;

/** Boundaries of pearls and their sums: promises 7, 8, 27 to 32 and 39. */
public final class PearlEdgesTest {
    private static final Class<IllegalArgumentException> ARGUMENT = IllegalArgumentException.class;
    private static final Class<IllegalStateException> STATE = IllegalStateException.class;
    private static final Class<IndexOutOfBoundsException> INDEX = IndexOutOfBoundsException.class;
    private static final Class<NoSuchElementException> ELEMENT = NoSuchElementException.class;

    public static void main(String[] args) {
        deposit();
        withdraw();
        pearls();
        sums();
        writeBox();
        Expect.finish();
    }

    private static void deposit() {
        Expect.holds(PearlEdgesTest::depositInMissing, "P7 Throws `IndexOutOfBoundsException` if the box does not exist",
                "P7 - `box`: the box");
        Expect.holds(PearlEdgesTest::valueRange, "P7 - `value`: the value, 1 to 99",
                "P7 Throws `IllegalArgumentException` if the value is out of range",
                "T at most 5 pearls, each with a value from 1 to 99.");
        Expect.holds(PearlEdgesTest::depositInNotOpen,
                "P7 Throws `IllegalStateException` if the box is not open, or it has 5 pearls");
        Expect.holds(PearlEdgesTest::depositInFull,
                "P7 Throws `IllegalStateException` if the box is not open, or it has 5 pearls",
                "T at most 5 pearls, each with a value from 1 to 99.");
        Expect.holds(PearlEdgesTest::depositCounts, "P7 Returns the number of pearls in the box afterwards.");
    }

    private static void withdraw() {
        Expect.holds(PearlEdgesTest::withdrawFromMissing,
                "P8 Throws `IndexOutOfBoundsException` if the box does not exist", "P8 - `box`: the box");
        Expect.holds(PearlEdgesTest::withdrawFromNotOpen, "P8 Throws `IllegalStateException` if the box is not open");
        Expect.holds(PearlEdgesTest::withdrawFromEmpty, "P8 Throws `NoSuchElementException` if the box has no pearls");
        Expect.holds(PearlEdgesTest::mostValuable, "P8 Takes the most valuable pearl out of an open box");
        Expect.holds(PearlEdgesTest::firstOfSeveral, "P8 of several the one that was put into it first.");
    }

    private static void pearls() {
        Expect.holds(PearlEdgesTest::pearlsOfMissing,
                "P27 Throws `IndexOutOfBoundsException` if the box does not exist");
        Expect.holds(PearlEdgesTest::pearlsFrom0To5, "P27 Returns the number of pearls.");
        Expect.holds(PearlEdgesTest::pearlOfMissing, "P28 Throws `IndexOutOfBoundsException` if the box does not exist");
        Expect.holds(PearlEdgesTest::indexRange, "P28 Throws `NoSuchElementException` if there is no such index",
                "P28 - `index`: the index of the pearl in the order in which the pearls were put into the box,"
                        + " counted from 0");
        Expect.holds(PearlEdgesTest::rankRange, "P29 Throws `NoSuchElementException` if there is no such rank",
                "P29 - `rank`: the rank, counted from 0");
        Expect.holds(PearlEdgesTest::equalSums,
                "P29 Returns the box at a rank when the boxes are sorted by the sums of the values of their pearls in"
                        + " descending order, then by their numbers in ascending order.");
        Expect.holds(PearlEdgesTest::sumsNotPearls,
                "P29 Returns the box at a rank when the boxes are sorted by the sums of the values of their pearls in"
                        + " descending order, then by their numbers in ascending order.");
    }

    private static void sums() {
        Expect.holds(PearlEdgesTest::sumOfNone, "P30 Returns the sum of the values of all pearls, box by box.",
                "P31 Returns the same sum, from the values that were deposited and withdrawn.");
        Expect.holds(PearlEdgesTest::sumOfFull, "P30 Returns the sum of the values of all pearls, box by box.",
                "P31 Returns the same sum, from the values that were deposited and withdrawn.");
        Expect.holds(PearlEdgesTest::meanOfNone, "P32 Throws `ArithmeticException` if there are no pearls");
        Expect.holds(PearlEdgesTest::meanIsNotRounded, "P32 both converted to double.");
    }

    private static void writeBox() {
        Expect.holds(PearlEdgesTest::writeMissing, "P39 Throws `IndexOutOfBoundsException` if the box does not exist");
        Expect.holds(PearlEdgesTest::writeEmpty, "P39 the values of its pearls in the order in which they were put"
                + " into it, with a comma between two", "P39 Returns the length of the line.");
        Expect.holds(PearlEdgesTest::writeFull, "P39 the values of its pearls in the order in which they were put"
                + " into it, with a comma between two", "P39 Returns the length of the line.");
        Expect.holds(PearlEdgesTest::writeExample, "P39 for example \"3o:12,99\".");
        Expect.holds(PearlEdgesTest::writeShorter,
                "P39 Writes a box to the output line, which replaces its old content");
    }

    /** One open box of the holders 0 and 1 with these pearls. */
    private static TideVault withPearls(int... values) {
        TideVault vault = Vaults.withBoxes(0);
        Vaults.turnBoth(vault, 0);
        for (int value : values) {
            vault.deposit(0, value);
        }
        return vault;
    }

    private static String written(TideVault vault, int box) {
        return Vaults.line(vault, vault.writeBox(box));
    }

    private static void depositInMissing() {
        TideVault empty = Vaults.withHolders(2);
        Expect.throwing(INDEX, () -> empty.deposit(0, 5));
        TideVault vault = withPearls();
        Expect.throwing(INDEX, () -> vault.deposit(-1, 5));
        Expect.throwing(INDEX, () -> vault.deposit(1, 5));
        Expect.throwing(INDEX, () -> vault.deposit(10, 5));
        Expect.throwing(INDEX, () -> vault.deposit(Integer.MIN_VALUE, 5));
        Expect.throwing(INDEX, () -> vault.deposit(Integer.MAX_VALUE, 5));
    }

    private static void valueRange() {
        TideVault vault = withPearls();
        Expect.throwing(ARGUMENT, () -> vault.deposit(0, 0));
        Expect.throwing(ARGUMENT, () -> vault.deposit(0, 100));
        Expect.throwing(ARGUMENT, () -> vault.deposit(0, -1));
        Expect.throwing(ARGUMENT, () -> vault.deposit(0, Integer.MIN_VALUE));
        Expect.throwing(ARGUMENT, () -> vault.deposit(0, Integer.MAX_VALUE));
        Expect.due(1, vault.deposit(0, 1));
        Expect.due(2, vault.deposit(0, 99));
        Expect.due("0o:1,99", written(vault, 0));
    }

    private static void depositInNotOpen() {
        TideVault vault = Vaults.withBoxes(0, 60);
        Expect.throwing(STATE, () -> vault.deposit(0, 5));
        vault.turnKey(0, 0, 100);
        Expect.throwing(STATE, () -> vault.deposit(0, 5));
        vault.turnKey(0, 1, 101);
        Expect.due(1, vault.deposit(0, 5));
        Vaults.turnBoth(vault, 1);
        Expect.throwing(STATE, () -> vault.deposit(1, 5));
        vault.pass(9);
        Expect.due(2, vault.deposit(0, 5));
        vault.pass(1);
        Expect.throwing(STATE, () -> vault.deposit(0, 5));
    }

    private static void depositInFull() {
        TideVault vault = withPearls(1, 2, 3, 4, 5);
        Expect.throwing(STATE, () -> vault.deposit(0, 6));
        Expect.due("0o:1,2,3,4,5", written(vault, 0));
        vault.withdraw(0);
        Expect.due(5, vault.deposit(0, 6));
        Expect.throwing(STATE, () -> vault.deposit(0, 7));
        Expect.due("0o:1,2,3,4,6", written(vault, 0));
    }

    private static void depositCounts() {
        TideVault vault = withPearls();
        for (int i = 1; i <= 5; i++) {
            Expect.due(i, vault.deposit(0, 99));
        }
        vault.addBox(0, 1, 0);
        Vaults.turnBoth(vault, 1);
        Expect.due(1, vault.deposit(1, 99));
    }

    private static void withdrawFromMissing() {
        TideVault empty = Vaults.withHolders(2);
        Expect.throwing(INDEX, () -> empty.withdraw(0));
        TideVault vault = withPearls(5);
        Expect.throwing(INDEX, () -> vault.withdraw(-1));
        Expect.throwing(INDEX, () -> vault.withdraw(1));
        Expect.throwing(INDEX, () -> vault.withdraw(10));
        Expect.throwing(INDEX, () -> vault.withdraw(Integer.MIN_VALUE));
        Expect.throwing(INDEX, () -> vault.withdraw(Integer.MAX_VALUE));
    }

    private static void withdrawFromNotOpen() {
        TideVault vault = withPearls(5);
        vault.addBox(0, 1, 60);
        vault.pass(10);
        Expect.throwing(STATE, () -> vault.withdraw(0));
        vault.turnKey(0, 0, 100);
        Expect.throwing(STATE, () -> vault.withdraw(0));
        Vaults.turnBoth(vault, 1);
        Expect.throwing(STATE, () -> vault.withdraw(1));
        vault.turnKey(0, 1, 101);
        Expect.due(5, vault.withdraw(0));
    }

    private static void withdrawFromEmpty() {
        TideVault vault = withPearls();
        Expect.throwing(ELEMENT, () -> vault.withdraw(0));
        vault.deposit(0, 1);
        Expect.due(1, vault.withdraw(0));
        Expect.throwing(ELEMENT, () -> vault.withdraw(0));
        Expect.due(0, vault.pearls(0));
    }

    private static void mostValuable() {
        Expect.due(99, withPearls(99, 98, 1, 2, 97).withdraw(0));
        Expect.due(99, withPearls(1, 98, 97, 2, 99).withdraw(0));
        TideVault vault = withPearls(1, 98, 99, 2, 97);
        for (int value : new int[] {99, 98, 97, 2, 1}) {
            Expect.due(value, vault.withdraw(0));
        }
    }

    private static void firstOfSeveral() {
        TideVault vault = withPearls(9, 5, 9, 6, 9);
        Expect.due(9, vault.withdraw(0));
        Expect.due("0o:5,9,6,9", written(vault, 0));
        Expect.due(9, vault.withdraw(0));
        Expect.due("0o:5,6,9", written(vault, 0));
        vault.deposit(0, 9);
        Expect.due(9, vault.withdraw(0));
        Expect.due("0o:5,6,9", written(vault, 0));
        TideVault equal = withPearls(7, 7);
        Expect.due(7, equal.withdraw(0));
        Expect.due("0o:7", written(equal, 0));
    }

    private static void pearlsOfMissing() {
        TideVault empty = Vaults.withHolders(2);
        Expect.throwing(INDEX, () -> empty.pearls(0));
        TideVault vault = withPearls(5);
        for (int box : new int[] {-1, 1, 10, Integer.MIN_VALUE, Integer.MAX_VALUE}) {
            Expect.throwing(INDEX, () -> vault.pearls(box));
        }
    }

    private static void pearlsFrom0To5() {
        TideVault vault = withPearls();
        Expect.due(0, vault.pearls(0));
        for (int i = 1; i <= 5; i++) {
            vault.deposit(0, 9);
            Expect.due(i, vault.pearls(0));
        }
        vault.pass(10);
        Expect.due(5, vault.pearls(0));
    }

    private static void pearlOfMissing() {
        TideVault empty = Vaults.withHolders(2);
        Expect.throwing(INDEX, () -> empty.pearl(0, 0));
        TideVault vault = withPearls(5);
        for (int box : new int[] {-1, 1, 10, Integer.MIN_VALUE, Integer.MAX_VALUE}) {
            Expect.throwing(INDEX, () -> vault.pearl(box, 0));
        }
    }

    private static void indexRange() {
        TideVault vault = withPearls();
        Expect.throwing(ELEMENT, () -> vault.pearl(0, 0));
        for (int value : new int[] {5, 99, 1, 7, 6}) {
            vault.deposit(0, value);
        }
        Expect.due(5, vault.pearl(0, 0));
        Expect.due(6, vault.pearl(0, 4));
        for (int index : new int[] {-1, 5, Integer.MIN_VALUE, Integer.MAX_VALUE}) {
            Expect.throwing(ELEMENT, () -> vault.pearl(0, index));
        }
        vault.withdraw(0);
        Expect.due(1, vault.pearl(0, 1));
        Expect.due(6, vault.pearl(0, 3));
        Expect.throwing(ELEMENT, () -> vault.pearl(0, 4));
    }

    private static void rankRange() {
        TideVault empty = Vaults.withHolders(2);
        Expect.throwing(ELEMENT, () -> empty.boxByValue(0));
        TideVault vault = Vaults.withBoxes(0, 0, 0, 0, 0, 0, 0, 0, 0, 0);
        Expect.due(0, vault.boxByValue(0));
        Expect.due(9, vault.boxByValue(9));
        for (int rank : new int[] {-1, 10, Integer.MIN_VALUE, Integer.MAX_VALUE}) {
            Expect.throwing(ELEMENT, () -> vault.boxByValue(rank));
        }
        vault.undo();
        Expect.throwing(ELEMENT, () -> vault.boxByValue(9));
    }

    private static void equalSums() {
        TideVault vault = Vaults.withBoxes(0, 0, 0, 0);
        for (int box = 3; box >= 1; box--) {
            Vaults.turnBoth(vault, box);
        }
        vault.deposit(3, 50);
        vault.deposit(1, 30);
        vault.deposit(1, 20);
        vault.deposit(2, 51);
        Expect.due(2, vault.boxByValue(0));
        Expect.due(1, vault.boxByValue(1));
        Expect.due(3, vault.boxByValue(2));
        Expect.due(0, vault.boxByValue(3));
        vault.withdraw(2);
        Expect.due(1, vault.boxByValue(0));
        Expect.due(3, vault.boxByValue(1));
        Expect.due(0, vault.boxByValue(2));
        Expect.due(2, vault.boxByValue(3));
    }

    private static void sumsNotPearls() {
        TideVault vault = Vaults.withBoxes(0, 0);
        Vaults.turnBoth(vault, 0);
        Vaults.turnBoth(vault, 1);
        for (int i = 0; i < 5; i++) {
            vault.deposit(0, 19);
        }
        vault.deposit(1, 95);
        Expect.due(0, vault.boxByValue(0));
        vault.deposit(1, 1);
        Expect.due(1, vault.boxByValue(0));
        Expect.due(0, vault.boxByValue(1));
    }

    private static void sumOfNone() {
        TideVault vault = new TideVault();
        Expect.due(0L, vault.totalValue());
        Expect.due(0L, vault.totalValueByLedger());
        TideVault emptied = withPearls(99);
        emptied.withdraw(0);
        Expect.due(0L, emptied.totalValue());
        Expect.due(0L, emptied.totalValueByLedger());
    }

    private static void sumOfFull() {
        TideVault vault = Vaults.withBoxes(0, 0, 0, 0, 0, 0, 0, 0, 0, 0);
        for (int box = 0; box < 10; box++) {
            Vaults.turnBoth(vault, box);
            for (int i = 0; i < 5; i++) {
                vault.deposit(box, 99);
            }
        }
        vault.pass(10);
        Expect.due(4950L, vault.totalValue());
        Expect.due(4950L, vault.totalValueByLedger());
        Expect.due(99.0, vault.meanValue());
    }

    private static void meanOfNone() {
        TideVault empty = new TideVault();
        Expect.throwing(ArithmeticException.class, empty::meanValue);
        TideVault vault = withPearls();
        Expect.throwing(ArithmeticException.class, vault::meanValue);
        vault.deposit(0, 1);
        Expect.due(1.0, vault.meanValue());
        vault.withdraw(0);
        Expect.throwing(ArithmeticException.class, vault::meanValue);
    }

    private static void meanIsNotRounded() {
        Expect.due(1.5, withPearls(1, 2).meanValue());
        Expect.due(4.0 / 3.0, withPearls(1, 2, 1).meanValue());
        Expect.due(6.0 / 5.0, withPearls(1, 1, 1, 1, 2).meanValue());
    }

    private static void writeMissing() {
        TideVault vault = withPearls(12, 99);
        vault.writeBox(0);
        for (int box : new int[] {-1, 1, 10, Integer.MIN_VALUE, Integer.MAX_VALUE}) {
            Expect.throwing(INDEX, () -> vault.writeBox(box));
        }
        Expect.due("0o:12,99", Vaults.line(vault));
    }

    private static void writeEmpty() {
        TideVault vault = Vaults.withBoxes(0, 1);
        Expect.due(3, vault.writeBox(0));
        Expect.due("0c:", Vaults.line(vault));
        vault.turnKey(0, 0, 100);
        Expect.due("0h:", written(vault, 0));
        vault.turnKey(0, 1, 101);
        Expect.due("0o:", written(vault, 0));
        Vaults.turnBoth(vault, 1);
        Expect.due("1p:", written(vault, 1));
    }

    private static void writeFull() {
        TideVault vault = withPearls(10, 9, 99, 1, 11);
        Expect.due(15, vault.writeBox(0));
        Expect.due("0o:10,9,99,1,11", Vaults.line(vault));
        TideVault longest = withPearls(99, 99, 99, 99, 99);
        longest.pass(10);
        Expect.due(17, longest.writeBox(0));
        Expect.due("0c:99,99,99,99,99", Vaults.line(longest));
    }

    private static void writeExample() {
        TideVault vault = Vaults.withBoxes(0, 0, 0, 0);
        Vaults.turnBoth(vault, 3);
        vault.deposit(3, 12);
        vault.deposit(3, 99);
        Expect.due(8, vault.writeBox(3));
        Expect.due("3o:12,99", Vaults.line(vault));
    }

    private static void writeShorter() {
        TideVault vault = withPearls(99, 99);
        Expect.due(8, vault.writeBox(0));
        vault.withdraw(0);
        Expect.due("0o:99,99", Vaults.line(vault));
        Expect.due(5, vault.writeBox(0));
        Expect.due("0o:99", Vaults.line(vault));
    }
}
