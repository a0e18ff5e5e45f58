import java.util.NoSuchElementException;

/** Promises 42 to 46. */
public final class ProgramTest {
    private static final Class<IllegalArgumentException> ARGUMENT = IllegalArgumentException.class;
    private static final Class<IllegalStateException> STATE = IllegalStateException.class;
    private static final Class<UnsupportedOperationException> FAILED = UnsupportedOperationException.class;
    private static final Class<NoSuchElementException> ELEMENT = NoSuchElementException.class;

    public static void main(String[] args) {
        type();
        run();
        everyCommand();
        failing();
        everyFailure();
        errorPositions();
        recordsStay();
        Expect.finish();
    }

    private static void type() {
        Expect.promise(42, "type");
        TideVault vault = new TideVault();
        for (int i = 1; i <= 60; i++) {
            Expect.due(i, vault.type((char) (i * 1000)));
        }
        Expect.throwing(STATE, () -> vault.type('w'));
        Expect.throwing(STATE, () -> vault.type('w'));
        Expect.throwing(ARGUMENT, vault::run);
        Expect.due(1, vault.type('w'));
        vault.addHolder(1);
        vault.undo();
        vault.save();
        vault.restore();
        Expect.due(2, vault.type('x'));
    }

    private static void run() {
        Expect.promise(43, "run");
        TideVault vault = new TideVault();
        Expect.due(5, Vaults.run(vault, "holder 1;holder 22;box 0&1+0;turn 0 0=1;turn 0 1=22"));
        Expect.due('o', vault.status(0));
        Expect.due(1, vault.type('w'));
        Expect.due(1, Vaults.run(vault, "ait"));
        Expect.due(1, vault.time());
        Expect.due(12, Vaults.run(vault, "wait;wait;wait;wait;wait;wait;wait;wait;wait;wait;wait;wait"));
        Expect.due(13, vault.time());
        Expect.due(7, Vaults.run(vault, "wait 240;wait 240;wait 7;wait 010;wait 1;wait;wait 001"));
        Expect.due(13 + 480 + 7 + 10 + 1 + 1 + 1, vault.time());
        Expect.throwing(ARGUMENT, () -> Vaults.run(vault, ""));
        Expect.due(0, vault.errorPosition());
    }

    private static void everyCommand() {
        Expect.promise(43, "every command");
        TideVault vault = Vaults.withHolders(2);
        Vaults.run(vault, "holder 999;box 1&2+3;box 2&0+0");
        Expect.due(3, vault.holders());
        Expect.due(2, vault.otherHolder(0, 1));
        Expect.due(0, vault.otherHolder(1, 2));
        Vaults.run(vault, "tide 100/20;wait 17;turn 0 2=999");
        Expect.due(100, vault.setTide(100, 20));
        Expect.due(17, vault.time());
        Expect.due(2, vault.firstHolder(0));
        Vaults.run(vault, "code 2 999>5;turn 1 2=005;turn 1 0=100;put 1=7;put 1=9");
        Expect.due("1o:7,9", Vaults.line(vault, vault.writeBox(1)));
        Vaults.run(vault, "take 1;close 1;turn 0 1=101");
        Expect.due("1c:7", Vaults.line(vault, vault.writeBox(1)));
        Expect.due(3, vault.remainingDelay(0));
        vault.turnKey(1, 2, 5);
        Expect.due(0f, vault.failureRate());
    }

    private static void failing() {
        Expect.promise(43, "a failing command undoes all");
        TideVault vault = Vaults.withBoxes(0);
        Vaults.turnBoth(vault, 0);
        Expect.promise(45, "failedCommand");
        Expect.throwing(ELEMENT, vault::failedCommand);
        Expect.promise(46, "wasWrongCode");
        Expect.throwing(ELEMENT, vault::wasWrongCode);
        Expect.promise(43, "a failing command undoes all");
        Expect.throwing(FAILED, () -> Vaults.run(vault, "put 0=9;put 0=50;take 0;wait 10;take 0"));
        Expect.due(0, vault.pearls(0));
        Expect.due(0, vault.time());
        Expect.due(0L, vault.totalValueByLedger());
        Expect.due("o0@0", Vaults.events(vault));
        Expect.promise(45, "failedCommand");
        Expect.due(4, vault.failedCommand());
        Expect.promise(46, "wasWrongCode");
        Expect.due(false, vault.wasWrongCode());
        Expect.promise(43, "a wrong code has no effect in a program");
        Expect.throwing(FAILED, () -> Vaults.run(vault, "close 0;turn 0 1=2"));
        Expect.due(0, vault.alarm());
        Expect.due(0, vault.attempts(1));
        Expect.due('o', vault.status(0));
        Expect.due(0f, vault.failureRate());
        Expect.due("o0@0", Vaults.events(vault));
        Expect.promise(45, "failedCommand");
        Expect.due(1, vault.failedCommand());
        Expect.promise(46, "wasWrongCode");
        Expect.due(true, vault.wasWrongCode());
        Expect.throwing(FAILED, () -> Vaults.run(vault, "code 0 9>9"));
        Expect.due(true, vault.wasWrongCode());
        Expect.due(0, vault.failedCommand());
        Expect.throwing(FAILED, () -> Vaults.run(vault, "turn 0 0=9"));
        Expect.due(false, vault.wasWrongCode());
        Expect.promise(42, "the buffer is empty after a failed program");
        Expect.due(1, vault.type('x'));
    }

    private static void everyFailure() {
        Expect.promise(43, "commands fail as their methods do");
        String[] programs = {"box 0&0+0", "box 0&7+0", "box 0&1+61", "tide 59/20", "tide 100/101", "tide 481/99",
            "tide 99/9", "turn 9 0=100", "turn 0 9=100", "turn 0 2=102", "turn 0 0=9", "code 9 1>1", "code 0 1>1",
            "put 0=5", "put 9=5", "put 1=0", "put 1=100", "take 0", "take 1", "take 9", "close 0", "close 9",
            "wait 0", "wait 241", "wait 000", "wait 999"};
        for (String program : programs) {
            TideVault vault = Vaults.withBoxes(0, 0);
            Vaults.turnBoth(vault, 1);
            Expect.throwing(FAILED, () -> Vaults.run(vault, program));
            Expect.due(0, vault.failedCommand());
            Expect.due(program.equals("turn 0 0=9") || program.equals("code 0 1>1"), vault.wasWrongCode());
        }
    }

    private static void errorPositions() {
        Expect.promise(44, "errorPosition");
        TideVault vault = new TideVault();
        Expect.throwing(ELEMENT, vault::errorPosition);
        String[] texts = {"0|", "0|x", "1|h", "1|hx", "2|tax", "1|tx", "2|tix", "2|tux", "4|tide", "1|bx",
            "7|holder ", "7|holder x", "6|holder", "6|holder\t1", "10|holder 1234", "8|holder 1 ", "8|holder 1x",
            "9|holder 1;", "9|holder 1;;", "9|holder 1; ", "5|box 12", "5|box 1", "6|box 1&", "7|box 1&23",
            "8|box 1&2+", "8|box 1&2+ ", "5|tide /", "7|tide 60", "8|tide 601", "8|tide 6012", "6|tide 6;",
            "8|tide 60/", "11|tide 60/1234", "6|turn 12", "6|turn 1", "7|turn 1 ", "8|turn 1 23", "9|turn 1 2=",
            "6|code 1=", "8|code 1 2=", "9|code 1 2>", "12|code 1 2>1234", "2|cox", "1|cx", "2|clx", "5|close",
            "3|put=", "5|put 12", "6|put 1=", "9|put 1=1234", "6|take 12", "5|take ", "7|close 12", "4|wait=",
            "5|wait ", "5|wait  1", "8|wait 1234", "4|waiting", "5|wait;", "5|wait;;", "5|wait ;", "6|wait;w",
            "0| wait", "0|Wait", "3|waiT", "15|holder 1;wait 0x", "4|wait,wait", "7|holder \u0661",
            "59|wait 100;wait 100;wait 100;wait 100;wait 100;wait 100;wait;", "7|box 1&2;"};
        for (String text : texts) {
            int bar = text.indexOf('|');
            String program = text.substring(bar + 1);
            int position = Integer.parseInt(text.substring(0, bar));
            Expect.throwing(ARGUMENT, () -> Vaults.run(vault, program));
            Expect.due(position, vault.errorPosition());
        }
        Expect.promise(45, "no command failed");
        Expect.throwing(ELEMENT, vault::failedCommand);
        Expect.promise(44, "errorPosition at the end of a full buffer");
        Expect.throwing(ARGUMENT,
                () -> Vaults.run(vault, "wait;wait;wait;wait;wait;wait;wait;wait;wait;wait;wait;wait;"));
        Expect.due(60, vault.errorPosition());
        Expect.due(0, vault.time());
    }

    private static void recordsStay() {
        Expect.promise(44, "the record stays");
        TideVault vault = Vaults.withHolders(2);
        Expect.throwing(ARGUMENT, () -> Vaults.run(vault, "waiy"));
        Vaults.run(vault, "wait");
        Expect.throwing(FAILED, () -> Vaults.run(vault, "wait;code 1 7>7"));
        Expect.due(3, vault.errorPosition());
        Vaults.run(vault, "wait");
        Expect.throwing(ARGUMENT, () -> Vaults.run(vault, "w"));
        vault.undo();
        vault.undo();
        vault.save();
        vault.restore();
        Expect.due(0, vault.time());
        Expect.due(1, vault.errorPosition());
        Expect.promise(45, "the record stays");
        Expect.due(1, vault.failedCommand());
        Expect.promise(46, "the record stays");
        Expect.due(true, vault.wasWrongCode());
    }
}
