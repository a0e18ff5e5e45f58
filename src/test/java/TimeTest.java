import java.util.NoSuchElementException;

/** Promises 10 to 14, 24 to 26 and 38. */
public final class TimeTest {
    private static final Class<IllegalArgumentException> ARGUMENT = IllegalArgumentException.class;
    private static final Class<IndexOutOfBoundsException> INDEX = IndexOutOfBoundsException.class;
    private static final Class<NoSuchElementException> ELEMENT = NoSuchElementException.class;

    public static void main(String[] args) {
        pass();
        minutesInOrder();
        timeAndTide();
        lowMinutes();
        remainingDelay();
        minutesUntilOpen();
        openingAtEveryTime();
        isConsistent();
        Expect.finish();
    }

    private static void pass() {
        Expect.promise(10, "pass");
        TideVault vault = Vaults.withBoxes(0, 3, 3);
        Expect.throwing(ARGUMENT, () -> vault.pass(0));
        Expect.throwing(ARGUMENT, () -> vault.pass(-1));
        Expect.throwing(ARGUMENT, () -> vault.pass(241));
        Expect.due(0, vault.time());
        Expect.due(0, vault.pass(1));
        Expect.due(0, vault.pass(239));
        Vaults.turnBoth(vault, 0);
        Vaults.turnBoth(vault, 1);
        Vaults.turnBoth(vault, 2);
        Expect.due(0, vault.pass(2));
        Expect.due(2, vault.pass(240));
        Expect.due(482, vault.time());
        Expect.due("o0@240 o1@243 o2@243 c0@250 c1@253 c2@253", Vaults.events(vault));
    }

    private static void minutesInOrder() {
        Expect.promise(10, "the four things of a minute");
        TideVault vault = Vaults.withBoxes(0, 2, 1, 0);
        vault.setTide(60, 10);
        vault.pass(1);
        Vaults.turnBoth(vault, 3);
        vault.pass(7);
        Expect.due(8, vault.time());
        Vaults.turnBoth(vault, 1);
        Vaults.turnBoth(vault, 2);
        vault.pass(1);
        Expect.due('o', vault.status(2));
        Expect.due(1, vault.remainingDelay(1));
        vault.pass(1);
        Expect.due('p', vault.status(1));
        Expect.due(0, vault.remainingDelay(1));
        Vaults.turnBoth(vault, 0);
        vault.pass(1);
        Expect.due('c', vault.status(3));
        Expect.due('o', vault.status(2));
        Expect.due(0, vault.pass(48));
        Expect.due(2, vault.pass(1));
        Expect.due("o3@1 o2@9 c3@11 c2@19 o0@60 o1@60", Vaults.events(vault));
        Expect.due(0, vault.pass(9));
        Expect.due('o', vault.status(0));
        vault.pass(1);
        Expect.due('c', vault.status(0));
        Expect.due("c0@70 c1@70", Vaults.events(vault).substring("o3@1 o2@9 c3@11 c2@19 o0@60 o1@60 ".length()));

        TideVault both = Vaults.withBoxes(0, 5);
        Vaults.turnBoth(both, 0);
        both.pass(5);
        Vaults.turnBoth(both, 1);
        both.pass(5);
        Expect.due("o0@0 o1@10 c0@10", Vaults.events(both));
    }

    private static void timeAndTide() {
        Expect.promise(11, "time");
        TideVault vault = new TideVault();
        vault.pass(7);
        vault.pass(240);
        Expect.due(247, vault.time());

        Expect.promise(12, "isLowTide");
        TideVault tide = new TideVault();
        Expect.due(true, tide.isLowTide());
        tide.pass(59);
        Expect.due(true, tide.isLowTide());
        tide.pass(1);
        Expect.due(false, tide.isLowTide());
        tide.pass(179);
        Expect.due(false, tide.isLowTide());
        tide.pass(1);
        Expect.due(true, tide.isLowTide());
        tide.setTide(100, 40);
        Expect.due(false, tide.isLowTide());
        tide.setTide(100, 41);
        Expect.due(true, tide.isLowTide());
        tide.setTide(77, 77);
        Expect.due(true, tide.isLowTide());
    }

    private static void lowMinutes() {
        TideVault vault = new TideVault();
        vault.pass(55);
        for (int period : new int[] {60, 61, 97, 240, 480}) {
            for (int low : new int[] {10, 59, period}) {
                vault.setTide(period, low);
                vault.pass(13);
                for (int minutes : new int[] {0, 1, 2, 47, 60, 240, 777, 999, 1000}) {
                    int want = 0;
                    for (int t = vault.time(); t < vault.time() + minutes; t++) {
                        want += t % period < low ? 1 : 0;
                    }
                    Expect.promise(13, "lowMinutes");
                    Expect.due(want, vault.lowMinutes(minutes));
                    Expect.promise(14, "lowMinutesByCounting");
                    Expect.due(want, vault.lowMinutesByCounting(minutes));
                }
            }
        }
        Expect.promise(13, "lowMinutes");
        Expect.throwing(ARGUMENT, () -> vault.lowMinutes(-1));
        Expect.throwing(ARGUMENT, () -> vault.lowMinutes(1001));
        Expect.promise(14, "lowMinutesByCounting");
        Expect.throwing(ARGUMENT, () -> vault.lowMinutesByCounting(-1));
        Expect.throwing(ARGUMENT, () -> vault.lowMinutesByCounting(1001));
    }

    private static void remainingDelay() {
        Expect.promise(24, "remainingDelay");
        TideVault vault = Vaults.withBoxes(12, 0);
        Expect.throwing(INDEX, () -> vault.remainingDelay(-1));
        Expect.throwing(INDEX, () -> vault.remainingDelay(2));
        Expect.throwing(ELEMENT, () -> vault.remainingDelay(0));
        vault.turnKey(0, 0, 100);
        Expect.throwing(ELEMENT, () -> vault.remainingDelay(0));
        vault.pass(4);
        vault.turnKey(0, 1, 101);
        Vaults.turnBoth(vault, 1);
        Expect.due(12, vault.remainingDelay(0));
        Expect.throwing(ELEMENT, () -> vault.remainingDelay(1));
        vault.pass(5);
        Expect.due(7, vault.remainingDelay(0));
        vault.setTide(480, 10);
        vault.pass(100);
        Expect.due(6, vault.remainingDelay(0));
        vault.close(0);
        Expect.throwing(ELEMENT, () -> vault.remainingDelay(0));
        vault.pass(240);
        vault.pass(140);
        Vaults.turnBoth(vault, 0);
        Expect.due(12, vault.remainingDelay(0));
    }

    private static void minutesUntilOpen() {
        TideVault vault = Vaults.withBoxes(60, 0, 1);
        Expect.promise(25, "minutesUntilOpen");
        Expect.throwing(INDEX, () -> vault.minutesUntilOpen(-1));
        Expect.throwing(INDEX, () -> vault.minutesUntilOpen(3));
        Expect.throwing(ELEMENT, () -> vault.minutesUntilOpen(0));
        Expect.promise(26, "minutesUntilOpenBySimulation");
        Expect.throwing(INDEX, () -> vault.minutesUntilOpenBySimulation(-1));
        Expect.throwing(INDEX, () -> vault.minutesUntilOpenBySimulation(3));
        Expect.throwing(ELEMENT, () -> vault.minutesUntilOpenBySimulation(0));
        vault.setTide(480, 10);
        vault.pass(10);
        Vaults.turnBoth(vault, 0);
        Vaults.turnBoth(vault, 1);
        Vaults.turnBoth(vault, 2);
        Expect.promise(25, "minutesUntilOpen");
        Expect.due(3350, vault.minutesUntilOpen(0));
        Expect.due(470, vault.minutesUntilOpen(1));
        Expect.due(471, vault.minutesUntilOpen(2));
        Expect.promise(26, "minutesUntilOpenBySimulation");
        Expect.due(3350, vault.minutesUntilOpenBySimulation(0));
        Expect.due(470, vault.minutesUntilOpenBySimulation(1));
        Expect.due(471, vault.minutesUntilOpenBySimulation(2));
        Expect.due(10, vault.time());
        Expect.due(0, vault.events());
        Expect.due('p', vault.status(0));
        Expect.due(60, vault.remainingDelay(0));
        Vaults.passAll(vault, 3349);
        Expect.due('p', vault.status(0));
        Expect.due(1, vault.pass(1));
    }

    /** Both ways against what passing really brings, at every place of a tide. */
    private static void openingAtEveryTime() {
        for (int start = 1; start <= 70; start += 3) {
            for (int delay : new int[] {0, 1, 5, 20}) {
                TideVault vault = Vaults.withBoxes(delay);
                vault.setTide(60, 11);
                vault.pass(start);
                if (Vaults.turnBoth(vault, 0) == 'o') {
                    continue;
                }
                vault.setTide(63, 12);
                int search = vault.minutesUntilOpen(0);
                int simulated = vault.minutesUntilOpenBySimulation(0);
                int really = 0;
                while (vault.status(0) == 'p') {
                    vault.pass(1);
                    really++;
                }
                Expect.promise(25, "minutesUntilOpen");
                Expect.due(really, search);
                Expect.promise(26, "minutesUntilOpenBySimulation");
                Expect.due(really, simulated);
            }
        }
    }

    private static void isConsistent() {
        Expect.promise(38, "isConsistent");
        TideVault vault = Vaults.withBoxes(0, 60, 7, 0, 13, 59, 1, 0, 0, 30);
        vault.setTide(480, 10);
        Vaults.turnBoth(vault, 0);
        vault.deposit(0, 44);
        vault.pass(11);
        for (int box = 1; box < 10; box++) {
            Vaults.turnBoth(vault, box);
        }
        Expect.due(true, vault.isConsistent());
        vault.setTide(61, 60);
        Expect.due(true, vault.isConsistent());
        Expect.due(11, vault.time());
        Expect.due("o0@0 d0@0 c0@10", Vaults.events(vault));
        vault.pass(1);
        Expect.due(true, vault.isConsistent());
        vault.undo();
        Expect.due(true, vault.isConsistent());
    }
}
