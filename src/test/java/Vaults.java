/** Vaults in the states that the tests start from, and short ways of typing. */
final class Vaults {
    private Vaults() {
    }

    /** Holders with the codes 100, 101, 102 and so on. */
    static TideVault withHolders(int number) {
        TideVault vault = new TideVault();
        for (int i = 0; i < number; i++) {
            vault.addHolder(100 + i);
        }
        return vault;
    }

    /** Holders 0 to 2, and box after box of the holders 0 and 1 with these delays. */
    static TideVault withBoxes(int... delays) {
        TideVault vault = withHolders(3);
        for (int delay : delays) {
            vault.addBox(0, 1, delay);
        }
        return vault;
    }

    /** Turns both keys of a box of the holders 0 and 1. */
    static char turnBoth(TideVault vault, int box) {
        vault.turnKey(box, 0, 100);
        return vault.turnKey(box, 1, 101);
    }

    static void passAll(TideVault vault, int minutes) {
        int left = minutes;
        while (left > 0) {
            int part = Math.min(left, 240);
            vault.pass(part);
            left -= part;
        }
    }

    static void type(TideVault vault, String text) {
        for (char character : text.toCharArray()) {
            vault.type(character);
        }
    }

    static int run(TideVault vault, String text) {
        type(vault, text);
        return vault.run();
    }

    static void tellWrong(TideVault vault, int holder, int times) {
        for (int i = 0; i < times; i++) {
            try {
                vault.changeCode(holder, -1, 0);
                throw new AssertionError("a wrong code was taken");
            } catch (UnsupportedOperationException e) {
                continue;
            }
        }
    }

    /** The output line after a write method answered its length. */
    static String line(TideVault vault, int length) {
        StringBuilder text = new StringBuilder();
        for (int i = 0; i < length; i++) {
            text.append(vault.charAt(i));
        }
        return text.toString();
    }

    static String events(TideVault vault) {
        StringBuilder text = new StringBuilder();
        for (int i = 0; i < vault.events(); i++) {
            text.append(i == 0 ? "" : " ").append(vault.eventKind(i)).append(vault.eventNumber(i))
                    .append('@').append(vault.eventTime(i));
        }
        return text.toString();
    }
}
