import java.util.NoSuchElementException;

/** Boundaries of programs: their grammar, and promises 42 to 46. */
public final class ProgramEdgesTest {
    private static final Class<IllegalArgumentException> ARGUMENT = IllegalArgumentException.class;
    private static final Class<IllegalStateException> STATE = IllegalStateException.class;
    private static final Class<UnsupportedOperationException> FAILED = UnsupportedOperationException.class;
    private static final Class<NoSuchElementException> ELEMENT = NoSuchElementException.class;

    /** Each command at its longest, with the length from which on each beginning is a program. */
    private static final String[] COMMANDS = {"holder 123|8", "box 1&2+045|9", "tide 123/045|10", "turn 1 2=345|10",
        "code 1 234>567|12", "put 1=023|7", "take 1|6", "close 1|7", "wait 123|6"};
    private static final String TEN_WAITS = "wait;wait;wait;wait;wait;wait;wait;wait;wait;wait";
    private static final String ELEVEN_WAITS = "wait;" + TEN_WAITS;
    private static final String TWELVE_WAITS = "wait;wait;" + TEN_WAITS;
    private static final String SIXTY_CHARACTERS = "wait 1;wait 1;wait 1;wait 1;wait 1;wait 1;wait 1;wait 1;wait";

    public static void main(String[] args) {
        type();
        grammar();
        errors();
        failures();
        records();
        Expect.finish();
    }

    private static void type() {
        Expect.holds(ProgramEdgesTest::sixtyCharacters,
                "P42 Throws `IllegalStateException` if the buffer contains 60 characters",
                "P42 Returns the number of characters in the buffer afterwards.");
        Expect.holds(ProgramEdgesTest::refusedCharacterIsNotTyped,
                "P42 Throws `IllegalStateException` if the buffer contains 60 characters");
        Expect.holds(ProgramEdgesTest::anyCharacter, "P42 - `character`: any character");
        Expect.holds(ProgramEdgesTest::emptyAfterwards, "P43 The buffer is empty afterwards in every case.",
                "T run() empties the program buffer and records a syntax error or a failed command.");
    }

    private static void grammar() {
        Expect.holds(ProgramEdgesTest::oneToManyCommands, "T braces mean zero or more repetitions",
                "P43 Returns the number of commands.");
        Expect.holds(ProgramEdgesTest::oneToThreeDigits, "T `number = digit [ digit [ digit ] ]`");
        Expect.holds(ProgramEdgesTest::waitWithoutNumber, "T \"wait\" without a number means one minute.");
        Expect.holds(ProgramEdgesTest::smallestAndLargestNumbers,
                "T The commands correspond to addHolder(code), addBox(one, other, delay), setTide(period, low),"
                        + " turnKey(box, holder, code), changeCode(holder, code, newCode), deposit(box, value),"
                        + " withdraw(box), close(box) and pass(minutes)");
        Expect.holds(ProgramEdgesTest::highestDigits,
                "T The commands correspond to addHolder(code), addBox(one, other, delay), setTide(period, low),"
                        + " turnKey(box, holder, code), changeCode(holder, code, newCode), deposit(box, value),"
                        + " withdraw(box), close(box) and pass(minutes)");
    }

    private static void errors() {
        String position = "T The error position of a text that is not a program is the index of the first character"
                + " at which no program can continue, or the length of the text if the text is a proper prefix of a"
                + " program.";
        Expect.holds(ProgramEdgesTest::emptyText, position,
                "P43 Throws `IllegalArgumentException` if the text is not a program; its error position is recorded");
        String command = "T `command = \"holder \" number | \"box \" digit \"&\" digit \"+\" number";
        Expect.holds(ProgramEdgesTest::everyProperPrefix, position, command);
        Expect.holds(ProgramEdgesTest::everyWrongContinuation, position, command);
        Expect.holds(ProgramEdgesTest::oneDigitTooMany, position, "T `number = digit [ digit [ digit ] ]`");
        Expect.holds(ProgramEdgesTest::semicolons, position, "T `program = command { \";\" command`}");
        Expect.holds(ProgramEdgesTest::fullBufferPrefix, position);
        Expect.holds(ProgramEdgesTest::sharedBeginnings, position);
        Expect.holds(ProgramEdgesTest::blanksAndCases, position);
        Expect.holds(ProgramEdgesTest::neighboursOfDigits, position, "T `number = digit [ digit [ digit ] ]`");
        Expect.holds(ProgramEdgesTest::syntaxErrorExecutesNothing,
                "P43 Throws `IllegalArgumentException` if the text is not a program; its error position is recorded");
    }

    private static void failures() {
        String failed = "P43 Throws `UnsupportedOperationException` if a command fails, that is, if the method for it"
                + " throws an exception; the number of this command, counted from 0, is recorded";
        Expect.holds(ProgramEdgesTest::firstAndLastCommandFail, failed);
        Expect.holds(ProgramEdgesTest::everyExceptionFails, failed);
        Expect.holds(ProgramEdgesTest::limitsReachedInAProgram, failed);
        Expect.holds(ProgramEdgesTest::failedCommandUndoesAll,
                "P43 Parses the program buffer and executes the commands in order, either all of them or, if one of"
                        + " them fails, none");
        Expect.holds(ProgramEdgesTest::wrongCodeInAProgram, "P43 so that a wrong code has no effect in a program.");
        Expect.holds(ProgramEdgesTest::threeWrongCodesInPrograms,
                "P43 so that a wrong code has no effect in a program.");
    }

    private static void records() {
        Expect.holds(ProgramEdgesTest::noErrorPosition, "P44 Throws `NoSuchElementException` if there was no such text");
        Expect.holds(ProgramEdgesTest::latestErrorPosition,
                "P44 Returns the recorded error position of the latest text that was not a program.");
        Expect.holds(ProgramEdgesTest::noFailedCommand, "P45 Throws `NoSuchElementException` if no command failed",
                "P46 Throws `NoSuchElementException` if no command failed");
        Expect.holds(ProgramEdgesTest::latestFailedCommand,
                "P45 Returns the recorded number of the latest command that failed in a program.",
                "P46 Returns true if the code was wrong.");
        Expect.holds(ProgramEdgesTest::wrongCodeOnlyWhenCompared,
                "P46 Returns whether the latest command that failed in a program failed because of a wrong code.");
    }

    private static void isNoProgram(TideVault vault, int position, String text) {
        Expect.throwing(ARGUMENT, () -> Vaults.run(vault, text));
        Expect.due(text + " " + position, text + " " + vault.errorPosition());
    }

    private static void fails(TideVault vault, int command, boolean byCode, String text) {
        Expect.throwing(FAILED, () -> Vaults.run(vault, text));
        Expect.due(text + " " + command, text + " " + vault.failedCommand());
        Expect.due(byCode, vault.wasWrongCode());
    }

    private static void sixtyCharacters() {
        TideVault vault = new TideVault();
        for (int i = 1; i <= 60; i++) {
            Expect.due(i, vault.type('w'));
        }
        Expect.throwing(STATE, () -> vault.type('w'));
        Expect.throwing(STATE, () -> vault.type(';'));
        isNoProgram(vault, 1, "");
        Expect.due(1, vault.type('w'));
    }

    private static void refusedCharacterIsNotTyped() {
        TideVault vault = new TideVault();
        Vaults.type(vault, SIXTY_CHARACTERS);
        Expect.throwing(STATE, () -> vault.type('x'));
        Expect.due(9, vault.run());
        Expect.due(9, vault.time());
    }

    private static void anyCharacter() {
        for (char character : new char[] {0, 1, '\n', ' ', 127, 128, 255, 256, 0x661, 0xd800, 0xffff}) {
            TideVault vault = new TideVault();
            Expect.due(1, vault.type(character));
            Expect.throwing(ARGUMENT, vault::run);
            Expect.due(0, vault.errorPosition());
            isNoProgram(vault, 5, "wait " + character);
            isNoProgram(vault, 4, "wait" + (character == ' ' ? '!' : character));
        }
    }

    private static void emptyAfterwards() {
        TideVault vault = new TideVault();
        Vaults.run(vault, "wait");
        Expect.due(1, vault.type('x'));
        Expect.throwing(ARGUMENT, vault::run);
        Expect.due(1, Vaults.run(vault, "wait"));
        Expect.throwing(FAILED, () -> Vaults.run(vault, "take 0"));
        Expect.due(1, Vaults.run(vault, "wait"));
        Expect.due(3, vault.time());
        Expect.due(1, vault.type('w'));
    }

    private static void oneToManyCommands() {
        TideVault vault = new TideVault();
        Expect.due(1, Vaults.run(vault, "wait"));
        Expect.due(2, Vaults.run(vault, "wait;wait 2"));
        Expect.due(12, Vaults.run(vault, TWELVE_WAITS));
        Expect.due(16, vault.time());
        Expect.due(9, Vaults.run(vault, SIXTY_CHARACTERS));
        Expect.due(25, vault.time());
        Expect.due(1, Vaults.run(vault, "wait"));
    }

    private static void oneToThreeDigits() {
        TideVault vault = new TideVault();
        Vaults.run(vault, "wait 7;wait 07;wait 007;wait 12;wait 012;wait 123");
        Expect.due(21 + 24 + 123, vault.time());
        Vaults.run(vault, "holder 0;holder 00;holder 000;holder 999");
        Expect.due(0, vault.changeCode(0, 0, 1));
        Expect.due(0, vault.changeCode(2, 0, 1));
        Expect.due(0, vault.changeCode(3, 999, 1));
    }

    private static void waitWithoutNumber() {
        TideVault vault = new TideVault();
        Vaults.run(vault, "wait 100");
        Vaults.run(vault, "wait");
        Expect.due(101, vault.time());
        Vaults.run(vault, "wait;wait 3;wait");
        Expect.due(106, vault.time());
    }

    private static void smallestAndLargestNumbers() {
        TideVault vault = new TideVault();
        Vaults.run(vault, "holder 0;holder 999;box 0&1+0;box 1&0+60;tide 60/10");
        Expect.due(60, vault.setTide(60, 10));
        Vaults.run(vault, "tide 480/480;turn 0 0=0;turn 0 1=999;put 0=1;put 0=99");
        Expect.due(480, vault.setTide(480, 480));
        Expect.due(100L, vault.totalValue());
        Vaults.run(vault, "take 0;close 0;turn 1 1=999;turn 1 0=0;code 0 0>999");
        Expect.due(60, vault.remainingDelay(1));
        Expect.due(1L, vault.totalValue());
        Vaults.run(vault, "code 0 999>0;wait 1;wait 240");
        Expect.due(241, vault.time());
    }

    private static void highestDigits() {
        TideVault vault = Vaults.withHolders(8);
        for (int i = 0; i < 9; i++) {
            vault.addBox(0, 1, 0);
        }
        Vaults.run(vault, "box 6&7+0;turn 9 7=107;turn 9 6=106;put 9=5");
        Expect.due(5, vault.pearl(9, 0));
        Vaults.run(vault, "code 7 107>1;take 9;close 9");
        Expect.due("o9@0 d9@0 w9@0 c9@0", Vaults.events(vault));
    }

    private static void emptyText() {
        TideVault vault = new TideVault();
        Expect.throwing(ARGUMENT, vault::run);
        Expect.due(0, vault.errorPosition());
        Vaults.run(vault, "wait");
        isNoProgram(vault, 0, "x");
        isNoProgram(vault, 0, "");
    }

    /** The text of a command before the bar. */
    private static String textOf(String command) {
        return command.substring(0, command.indexOf('|'));
    }

    private static boolean isWhole(String command, int length) {
        boolean isBareWait = command.startsWith("wait") && length == 4;
        return isBareWait || length >= Integer.parseInt(command.substring(command.indexOf('|') + 1));
    }

    private static void everyProperPrefix() {
        for (String command : COMMANDS) {
            String text = textOf(command);
            TideVault vault = new TideVault();
            for (int length = 0; length <= text.length(); length++) {
                String prefix = text.substring(0, length);
                if (isWhole(command, length)) {
                    isNoProgram(vault, length + 1, prefix + ";");
                } else {
                    isNoProgram(vault, length, prefix);
                }
            }
        }
    }

    private static void everyWrongContinuation() {
        for (String command : COMMANDS) {
            String text = textOf(command);
            for (int length = 0; length <= text.length(); length++) {
                TideVault vault = new TideVault();
                String prefix = text.substring(0, length);
                isNoProgram(vault, length, prefix + "~");
                isNoProgram(vault, length, prefix + "~" + text.substring(length));
                isNoProgram(vault, length + 5, "wait;" + prefix + "~;wait");
                isNoProgram(vault, length, prefix + (char) 0);
            }
        }
    }

    private static void oneDigitTooMany() {
        for (String command : COMMANDS) {
            String text = textOf(command);
            isNoProgram(new TideVault(), text.length(), text + "0");
            isNoProgram(new TideVault(), text.length(), text + "9;wait");
        }
        isNoProgram(new TideVault(), 5, "box 12&3+4");
        isNoProgram(new TideVault(), 7, "box 1&23+4");
        isNoProgram(new TideVault(), 8, "tide 1234/5");
        isNoProgram(new TideVault(), 10, "tide 1/2345");
        isNoProgram(new TideVault(), 6, "turn 12 3=4");
        isNoProgram(new TideVault(), 8, "turn 1 23=4");
        isNoProgram(new TideVault(), 6, "code 12 3>4");
        isNoProgram(new TideVault(), 10, "code 1 2345>6");
        isNoProgram(new TideVault(), 5, "put 12=3");
    }

    private static void semicolons() {
        TideVault vault = new TideVault();
        isNoProgram(vault, 0, ";");
        isNoProgram(vault, 0, ";wait");
        isNoProgram(vault, 5, "wait;");
        isNoProgram(vault, 5, "wait;;wait");
        isNoProgram(vault, 10, "wait;wait;");
        isNoProgram(vault, 4, "wait,wait");
        isNoProgram(vault, 5, "wait; wait");
        isNoProgram(vault, 4, "waitwait");
        Expect.due(0, vault.time());
    }

    private static void fullBufferPrefix() {
        TideVault vault = new TideVault();
        isNoProgram(vault, 60, TWELVE_WAITS + ";");
        isNoProgram(vault, 60, ELEVEN_WAITS + ";turn ");
        isNoProgram(vault, 59, TWELVE_WAITS + "x");
        isNoProgram(vault, 59, ELEVEN_WAITS + ";turny");
        Expect.due(0, vault.time());
    }

    private static void sharedBeginnings() {
        TideVault vault = new TideVault();
        isNoProgram(vault, 1, "t");
        isNoProgram(vault, 1, "tx");
        isNoProgram(vault, 2, "ta");
        isNoProgram(vault, 2, "ti");
        isNoProgram(vault, 2, "tu");
        isNoProgram(vault, 2, "tade");
        isNoProgram(vault, 2, "tike");
        isNoProgram(vault, 2, "tude");
        isNoProgram(vault, 4, "take");
        isNoProgram(vault, 4, "take1");
        isNoProgram(vault, 1, "c");
        isNoProgram(vault, 1, "ca");
        isNoProgram(vault, 2, "cose");
        isNoProgram(vault, 2, "clde");
        isNoProgram(vault, 4, "code");
        isNoProgram(vault, 5, "close");
    }

    private static void blanksAndCases() {
        TideVault vault = new TideVault();
        isNoProgram(vault, 0, " wait");
        isNoProgram(vault, 4, "wait\t1");
        isNoProgram(vault, 5, "wait  1");
        isNoProgram(vault, 6, "wait 1 ");
        isNoProgram(vault, 5, "wait ;wait");
        isNoProgram(vault, 6, "holder1");
        isNoProgram(vault, 7, "holder  1");
        isNoProgram(vault, 5, "box 1 & 2 + 3");
        isNoProgram(vault, 0, "Wait");
        isNoProgram(vault, 3, "waiT");
    }

    private static void neighboursOfDigits() {
        TideVault vault = new TideVault();
        for (char character : new char[] {'/', ':', '-', '+', 'a', 0xb2, 0x661}) {
            isNoProgram(vault, 7, "holder " + character);
            isNoProgram(vault, 8, "holder 1" + character);
            isNoProgram(vault, 5, "take " + character);
        }
    }

    private static void syntaxErrorExecutesNothing() {
        TideVault vault = new TideVault();
        isNoProgram(vault, 16, "holder 1;wait 5;");
        isNoProgram(vault, 18, "holder 1;wait 5;hox");
        Expect.due(0, vault.holders());
        Expect.due(0, vault.time());
        Expect.throwing(STATE, vault::undo);
    }

    private static void firstAndLastCommandFail() {
        TideVault vault = new TideVault();
        fails(vault, 0, false, "take 0");
        fails(vault, 0, false, "wait 0;wait;wait");
        fails(vault, 2, false, "wait;wait;wait 241");
        fails(vault, 10, false, TEN_WAITS + ";wait 0");
        Expect.due(0, vault.time());
    }

    private static void everyExceptionFails() {
        String[] programs = {"box 8&0+0", "box 0&8+0", "box 0&0+0", "box 0&1+61", "tide 59/10", "tide 481/10",
            "tide 60/9", "tide 60/61", "turn 3 0=100", "turn 0 8=100", "turn 0 2=102", "turn 1 0=100", "turn 2 0=100",
            "code 8 0>0", "put 3=5", "put 1=0", "put 1=100", "put 0=5", "put 2=5", "take 3", "take 0", "take 1",
            "take 2", "close 3", "close 0", "wait 0", "wait 000", "wait 241", "wait 999"};
        for (String program : programs) {
            TideVault vault = Vaults.withBoxes(0, 0, 60);
            Vaults.turnBoth(vault, 1);
            Vaults.turnBoth(vault, 2);
            String before = Vaults.seen(vault);
            fails(vault, 0, false, program);
            fails(vault, 1, false, "wait;" + program);
            Expect.due(before, Vaults.seen(vault));
        }
    }

    private static void limitsReachedInAProgram() {
        TideVault vault = Vaults.withHolders(7);
        fails(vault, 1, false, "holder 1;holder 2");
        Expect.due(7, vault.holders());
        for (int i = 0; i < 9; i++) {
            vault.addBox(0, 1, 0);
        }
        fails(vault, 1, false, "box 0&1+0;box 0&1+0");
        Expect.due(9, vault.boxes());
        Vaults.turnBoth(vault, 8);
        fails(vault, 5, false, "put 8=1;put 8=2;put 8=3;put 8=4;put 8=5;put 8=6");
        Expect.due(0, vault.pearls(8));
        fails(vault, 2, false, "put 8=1;take 8;take 8");
        fails(vault, 1, false, "close 8;close 8");
        Expect.due('o', vault.status(8));
    }

    private static void failedCommandUndoesAll() {
        TideVault vault = Vaults.withBoxes(0, 9);
        vault.save();
        vault.pass(3);
        Vaults.turnBoth(vault, 0);
        vault.deposit(0, 9);
        vault.writeBox(0);
        String before = Vaults.seen(vault);
        fails(vault, 4, false, "holder 5;box 1&2+3;tide 60/10;wait 60;take 0");
        Expect.due(before, Vaults.seen(vault));
        fails(vault, 4, false, "put 0=1;take 0;take 0;close 0;take 0");
        Expect.due(before, Vaults.seen(vault));
        fails(vault, 3, false, "turn 1 0=100;turn 1 1=101;code 0 100>1;code 9 0>0");
        Expect.due(before, Vaults.seen(vault));
        Expect.due("0o:9", Vaults.line(vault));
        Expect.due(0, vault.changeCode(0, 100, 100));
        Expect.due(240, vault.setTide(60, 10));
    }

    private static void wrongCodeInAProgram() {
        TideVault vault = Vaults.withBoxes(0);
        fails(vault, 0, true, "turn 0 0=101");
        fails(vault, 1, true, "turn 0 0=100;turn 0 1=100");
        fails(vault, 1, true, "wait;code 2 103>5");
        Expect.due("0 true 237 0 true 0 0 throws.ArithmeticException throws.ArithmeticException []"
                + " h0,0,1 h0,0,1 h0,0,0 c", Vaults.seen(vault));
    }

    private static void threeWrongCodesInPrograms() {
        TideVault vault = Vaults.withBoxes(0);
        Vaults.tellWrong(vault, 0, 2);
        for (int i = 0; i < 3; i++) {
            fails(vault, 0, true, "turn 0 0=101");
        }
        Expect.due(2, vault.attempts(0));
        Expect.due(20, vault.alarm());
        Expect.due(0, vault.minutesLocked(0));
        Expect.due("f0@0 f0@0", Vaults.events(vault));
        Expect.due(1, Vaults.run(vault, "turn 0 0=100"));
        Expect.due(0, vault.attempts(0));
    }

    private static void noErrorPosition() {
        TideVault vault = new TideVault();
        Expect.throwing(ELEMENT, vault::errorPosition);
        Vaults.run(vault, "wait");
        Expect.throwing(FAILED, () -> Vaults.run(vault, "wait 0"));
        Expect.throwing(ELEMENT, vault::errorPosition);
        isNoProgram(vault, 0, "");
    }

    private static void latestErrorPosition() {
        TideVault vault = new TideVault();
        isNoProgram(vault, 7, "holder ");
        isNoProgram(vault, 0, "x");
        isNoProgram(vault, 3, "wai");
        Vaults.run(vault, "wait");
        Expect.throwing(FAILED, () -> Vaults.run(vault, "wait;take 0"));
        Expect.due(3, vault.errorPosition());
        Expect.due(3, vault.errorPosition());
    }

    private static void noFailedCommand() {
        TideVault vault = new TideVault();
        Vaults.run(vault, "wait");
        isNoProgram(vault, 13, "take 0;take 0x");
        Expect.throwing(IndexOutOfBoundsException.class, () -> vault.withdraw(0));
        Expect.throwing(ELEMENT, vault::failedCommand);
        Expect.throwing(ELEMENT, vault::wasWrongCode);
        fails(vault, 0, false, "take 0");
    }

    private static void latestFailedCommand() {
        TideVault vault = Vaults.withBoxes(0);
        fails(vault, 2, false, "wait;wait;take 0");
        fails(vault, 0, true, "turn 0 0=0");
        Vaults.run(vault, "wait");
        isNoProgram(vault, 0, "x");
        Vaults.tellWrong(vault, 2, 1);
        Expect.due(0, vault.failedCommand());
        Expect.due(true, vault.wasWrongCode());
        fails(vault, 1, false, "wait;take 0");
        fails(vault, 1, true, "wait;code 1 0>0");
    }

    private static void wrongCodeOnlyWhenCompared() {
        TideVault vault = Vaults.withBoxes(0, 60);
        vault.pass(1);
        Vaults.turnBoth(vault, 1);
        fails(vault, 0, false, "turn 1 0=7");
        fails(vault, 0, false, "turn 0 2=7");
        fails(vault, 1, false, "turn 0 0=100;turn 0 0=7");
        fails(vault, 0, true, "turn 0 0=7");
        Vaults.tellWrong(vault, 0, 3);
        fails(vault, 0, false, "turn 0 0=7");
        fails(vault, 0, false, "turn 0 1=7");
        fails(vault, 0, false, "code 0 7>7");
        fails(vault, 0, true, "code 1 7>7");
    }
}
