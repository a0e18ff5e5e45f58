import java.util.function.Supplier;

/** Vaults in the states that the tests start from, and short ways of typing. */
final class Vaults {
    private Vaults() {
    }

    /** Holders with the codes 100, 101, 102 and so on. */
    static TideVault withHolders(int number) {
        TideVault vault = new TideVault();
        for (int i = 0; i < number; i++) {
            vault.addHolder(100 + i);
        }
        return vault;
    }

    /** Holders 0 to 2, and box after box of the holders 0 and 1 with these delays. */
    static TideVault withBoxes(int... delays) {
        TideVault vault = withHolders(3);
        for (int delay : delays) {
            vault.addBox(0, 1, delay);
        }
        return vault;
    }

    /** Turns both keys of a box of the holders 0 and 1. */
    static char turnBoth(TideVault vault, int box) {
        vault.turnKey(box, 0, 100);
        return vault.turnKey(box, 1, 101);
    }

    static void passAll(TideVault vault, int minutes) {
        int left = minutes;
        while (left > 0) {
            int part = Math.min(left, 240);
            vault.pass(part);
            left -= part;
        }
    }

    static void type(TideVault vault, String text) {
        for (char character : text.toCharArray()) {
            vault.type(character);
        }
    }

    static int run(TideVault vault, String text) {
        type(vault, text);
        return vault.run();
    }

    static void tellWrong(TideVault vault, int holder, int times) {
        for (int i = 0; i < times; i++) {
            try {
                vault.changeCode(holder, -1, 0);
                throw new AssertionError("a wrong code was taken");
            } catch (UnsupportedOperationException e) {
                continue;
            }
        }
    }

    /** The output line after a write method answered its length. */
    static String line(TideVault vault, int length) {
        StringBuilder text = new StringBuilder();
        for (int i = 0; i < length; i++) {
            text.append(vault.charAt(i));
        }
        return text.toString();
    }

    static String events(TideVault vault) {
        StringBuilder text = new StringBuilder();
        for (int i = 0; i < vault.events(); i++) {
            text.append(i == 0 ? "" : " ").append(vault.eventKind(i)).append(vault.eventNumber(i))
                    .append('@').append(vault.eventTime(i));
        }
        return text.toString();
    }

    static String answer(Supplier<Object> call) {
        try {
            return String.valueOf(call.get());
        } catch (RuntimeException e) {
            return "throws." + e.getClass().getSimpleName();
        }
    }

    /** All that can be asked without a change of anything. */
    static String seen(TideVault vault) {
        StringBuilder text = new StringBuilder();
        text.append(vault.time()).append(' ').append(vault.isLowTide()).append(' ').append(vault.lowMinutes(777));
        text.append(' ').append(vault.alarm()).append(' ').append(vault.isConsistent());
        text.append(' ').append(vault.totalValue()).append(' ').append(vault.totalValueByLedger());
        text.append(' ').append(answer(vault::meanValue)).append(' ').append(answer(vault::failureRate));
        text.append(" [").append(events(vault)).append(']');
        for (int i = 0; i < vault.holders(); i++) {
            text.append(" h").append(vault.attempts(i)).append(',').append(vault.minutesLocked(i));
            text.append(',').append(vault.boxesOf(i));
        }
        for (int i = 0; i < vault.boxes(); i++) {
            text.append(' ').append(seenBox(vault, i));
        }
        return text.toString();
    }

    private static String seenBox(TideVault vault, int box) {
        StringBuilder text = new StringBuilder();
        char status = vault.status(box);
        text.append(status);
        if (status == 'h') {
            text.append(vault.firstHolder(box));
        }
        if (status == 'p') {
            text.append(vault.remainingDelay(box));
        }
        for (int i = 0; i < vault.pearls(box); i++) {
            text.append(i == 0 ? ":" : ",").append(vault.pearl(box, i));
        }
        return text.toString();
    }

    /** The output line, whatever its length. */
    static String line(TideVault vault) {
        StringBuilder text = new StringBuilder();
        for (int i = 0; i < 100; i++) {
            int index = i;
            String sign = answer(() -> vault.charAt(index));
            if (sign.length() > 1) {
                return text.toString();
            }
            text.append(sign);
        }
        return text.toString();
    }

    static String records(TideVault vault) {
        return answer(vault::errorPosition) + " " + answer(vault::failedCommand) + " " + answer(vault::wasWrongCode);
    }

    /** All that a vault holds, for which it is used up: its buffer is run, its changes are undone. */
    static String held(TideVault vault) {
        StringBuilder text = new StringBuilder();
        text.append(seen(vault)).append(" line ").append(line(vault)).append(" records ").append(records(vault));
        text.append(" run ").append(answer(vault::run)).append(' ').append(records(vault));
        for (int i = 0; i < 9; i++) {
            text.append(" undo ").append(answer(vault::undo)).append(' ').append(vault.time());
            text.append(',').append(vault.alarm()).append(',').append(vault.holders()).append(',');
            text.append(vault.boxes()).append(',').append(vault.totalValue()).append(',').append(vault.events());
        }
        text.append(" restore ").append(answer(vault::restore)).append(' ').append(seen(vault));
        return text.toString();
    }
}
