import java.util.Random;
import java.util.function.Supplier;

/** Long runs of drawn calls, each answer against the Model's; the seeds are fixed. */
public final class ModelTest {
    private static final int RUNS = 1500;
    private static final int CALLS = 512;
    private static final String LETTERS = "holderbxtiunvcdpaskw 0123456789&+/=>;;\u0100";

    private final Random random;
    private final int seed;
    private final TideVault vault = new TideVault();
    private final Model model = new Model();
    private int calls;
    private boolean isWrong;
    /** Some runs stay far from limits, others seek them. */
    private final int wildness;

    private ModelTest(int seed) {
        this.seed = seed;
        random = new Random(seed);
        wildness = seed % 3 == 0 ? 3 : 30;
    }

    public static void main(String[] args) {
        int wrong = 0;
        for (int seed = 0; seed < RUNS && wrong < 5; seed++) {
            ModelTest run = new ModelTest(seed);
            run.play();
            wrong += run.isWrong ? 1 : 0;
        }
        System.out.println(RUNS + " drawn runs, " + wrong + " wrong");
        if (wrong != 0) {
            System.exit(1);
        }
    }

    private void play() {
        for (int i = 0; i < 2 + random.nextInt(3); i++) {
            int code = random.nextInt(1000);
            same("addHolder " + code, () -> vault.addHolder(code), () -> model.addHolder(code));
        }
        while (calls < CALLS && !isWrong) {
            step();
        }
    }

    private static Object outcome(Supplier<Object> call) {
        try {
            return call.get();
        } catch (RuntimeException e) {
            return "throws." + e.getClass().getSimpleName();
        }
    }

    private void same(String call, Supplier<Object> real, Supplier<Object> due) {
        if (calls >= CALLS || isWrong) {
            return;
        }
        calls++;
        Object got = outcome(real);
        Object want = outcome(due);
        if (!want.equals(got)) {
            isWrong = true;
            System.out.println("seed " + seed + ", call " + calls + ": " + call + " answered " + got + ", due is " + want);
        }
    }

    private int upTo(int most) {
        return random.nextInt(wildness) == 0 ? random.nextInt(most + 5) - 2 : random.nextInt(most + 1);
    }

    private int someBox() {
        int boxes = (Integer) model.simple('b');
        return random.nextInt(wildness) == 0 ? random.nextInt(14) - 2 : random.nextInt(Math.max(boxes, 1));
    }

    private int someHolder() {
        int holders = (Integer) model.simple('h');
        return random.nextInt(wildness) == 0 ? random.nextInt(12) - 2 : random.nextInt(Math.max(holders, 1));
    }

    private int ownerOf(int box) {
        return random.nextInt(wildness) == 0 ? someHolder() : model.partner(box, random.nextInt(2));
    }

    private int codeFor(int holder) {
        return random.nextInt(12) == 0 ? upTo(999) : model.codeOf(holder);
    }

    private int someMinutes() {
        int[] usual = {1, 2, 4, 5, 6, 9, 10, 11, 29, 30, 60, 100, 240};
        return random.nextInt(10) == 0 ? upTo(241) : usual[random.nextInt(usual.length)];
    }

    private void step() {
        switch (random.nextInt(34)) {
            case 0: addHolder(); break;
            case 1: case 2: addBox(); break;
            case 3: setTide(); break;
            case 4: case 5: case 6: turnKey(someBox()); break;
            case 7: case 8: case 9: turnBoth(); break;
            case 10: changeCode(); break;
            case 11: case 12: case 13: deposit(someBox()); break;
            case 14: withdraw(); break;
            case 15: close(); break;
            case 16: case 17: case 18: pass(); break;
            case 19: case 20: time(); break;
            case 21: holders(); break;
            case 22: case 23: box(); break;
            case 24: pearls(); break;
            case 25: sums(); break;
            case 26: case 27: events(); break;
            case 28: line(); break;
            case 29: case 30: program(); break;
            case 31: undo(); break;
            case 32: saveOrRestore(); break;
            default: records(); break;
        }
    }

    private void addHolder() {
        int code = upTo(999);
        same("addHolder " + code, () -> vault.addHolder(code), () -> model.addHolder(code));
    }

    private void addBox() {
        int one = someHolder();
        int other = someHolder();
        int delay = random.nextInt(3) == 0 ? 0 : upTo(60);
        same("addBox " + one + " " + other + " " + delay,
                () -> vault.addBox(one, other, delay), () -> model.addBox(one, other, delay));
    }

    private void setTide() {
        int period = 60 + upTo(random.nextBoolean() ? 20 : 420);
        int low = random.nextBoolean() ? 10 + upTo(20) : 10 + upTo(period - 10);
        same("setTide " + period + " " + low, () -> vault.setTide(period, low), () -> model.setTide(period, low));
    }

    private void turnKey(int box) {
        turnKey(box, ownerOf(box));
    }

    private void turnKey(int box, int holder) {
        int code = codeFor(holder);
        same("turnKey " + box + " " + holder + " " + code,
                () -> vault.turnKey(box, holder, code), () -> model.turnKey(box, holder, code));
    }

    private void turnBoth() {
        int box = someBox();
        turnKey(box, model.partner(box, 0));
        turnKey(box, model.partner(box, 1));
        for (int i = random.nextInt(7); i > 0; i--) {
            deposit(box);
        }
    }

    private void changeCode() {
        int holder = someHolder();
        int code = codeFor(holder);
        int newCode = upTo(999);
        same("changeCode " + holder + " " + code + " " + newCode,
                () -> vault.changeCode(holder, code, newCode), () -> model.changeCode(holder, code, newCode));
    }

    private void deposit(int box) {
        int value = random.nextInt(wildness) == 0 ? upTo(100) : 1 + random.nextInt(random.nextBoolean() ? 4 : 99);
        same("deposit " + box + " " + value, () -> vault.deposit(box, value), () -> model.deposit(box, value));
    }

    private void withdraw() {
        int box = someBox();
        same("withdraw " + box, () -> vault.withdraw(box), () -> model.withdraw(box));
    }

    private void close() {
        int box = someBox();
        same("close " + box, () -> vault.close(box), () -> model.close(box));
    }

    private void pass() {
        int minutes = someMinutes();
        same("pass " + minutes, () -> vault.pass(minutes), () -> model.pass(minutes));
    }

    private void time() {
        int minutes = upTo(1000);
        same("time", vault::time, () -> model.simple('t'));
        same("isLowTide", vault::isLowTide, () -> model.simple('l'));
        same("alarm", vault::alarm, () -> model.simple('a'));
        same("lowMinutes " + minutes, () -> vault.lowMinutes(minutes), () -> model.lowMinutes(minutes));
        same("lowMinutesByCounting " + minutes,
                () -> vault.lowMinutesByCounting(minutes), () -> model.lowMinutes(minutes));
    }

    private void holders() {
        int holder = someHolder();
        same("holders", vault::holders, () -> model.simple('h'));
        same("attempts " + holder, () -> vault.attempts(holder), () -> model.ofHolder('a', holder));
        same("minutesLocked " + holder, () -> vault.minutesLocked(holder), () -> model.ofHolder('m', holder));
        same("boxesOf " + holder, () -> vault.boxesOf(holder), () -> model.ofHolder('b', holder));
    }

    private void box() {
        int box = someBox();
        int holder = ownerOf(box);
        same("boxes", vault::boxes, () -> model.simple('b'));
        same("otherHolder " + box + " " + holder,
                () -> vault.otherHolder(box, holder), () -> model.otherHolder(box, holder));
        same("status " + box, () -> vault.status(box), () -> model.ofBox('s', box));
        same("firstHolder " + box, () -> vault.firstHolder(box), () -> model.ofBox('f', box));
        same("remainingDelay " + box, () -> vault.remainingDelay(box), () -> model.ofBox('r', box));
        same("minutesUntilOpen " + box, () -> vault.minutesUntilOpen(box), () -> model.ofBox('u', box));
        same("minutesUntilOpenBySimulation " + box,
                () -> vault.minutesUntilOpenBySimulation(box), () -> model.ofBox('u', box));
    }

    private void pearls() {
        int box = someBox();
        int index = upTo(4);
        same("pearls " + box, () -> vault.pearls(box), () -> model.ofBox('n', box));
        same("pearl " + box + " " + index, () -> vault.pearl(box, index), () -> model.pearl(box, index));
        int rank = someBox();
        same("boxByValue " + rank, () -> vault.boxByValue(rank), () -> model.boxByValue(rank));
    }

    private void sums() {
        same("totalValue", vault::totalValue, () -> model.simple('v'));
        same("totalValueByLedger", vault::totalValueByLedger, () -> model.simple('v'));
        same("meanValue", vault::meanValue, model::meanValue);
        same("failureRate", vault::failureRate, model::failureRate);
        same("isConsistent", vault::isConsistent, () -> model.simple('c'));
    }

    private void events() {
        int event = upTo(11);
        same("events", vault::events, () -> model.simple('e'));
        same("eventKind " + event, () -> vault.eventKind(event), () -> model.ofEvent('k', event));
        same("eventTime " + event, () -> vault.eventTime(event), () -> model.ofEvent('t', event));
        same("eventNumber " + event, () -> vault.eventNumber(event), () -> model.ofEvent('n', event));
    }

    private void line() {
        int box = someBox();
        if (random.nextBoolean()) {
            same("writeBox " + box, () -> vault.writeBox(box), () -> model.writeBox(box));
        } else {
            same("writeEvents", vault::writeEvents, model::writeEvents);
        }
        for (int i = 0; i < 4; i++) {
            int index = random.nextInt(36) - 1;
            same("charAt " + index, () -> vault.charAt(index), () -> model.charAt(index));
        }
    }

    private String someCommand() {
        int box = Math.abs(someBox()) % 10;
        int holder = Math.abs(ownerOf(box)) % 10;
        switch (random.nextInt(10)) {
            case 0: return "holder " + Math.abs(upTo(999)) % 1000;
            case 1: return "box " + Math.abs(someHolder()) % 10 + "&" + holder + "+" + random.nextInt(62);
            case 2: return "tide " + (59 + random.nextInt(30)) + "/" + (9 + random.nextInt(60));
            case 3: case 4: return "turn " + box + " " + holder + "=" + model.codeOf(holder);
            case 5: return "code " + holder + " " + codeFor(holder) % 1000 + ">" + random.nextInt(1000);
            case 6: return "put " + box + "=" + random.nextInt(101);
            case 7: return "take " + box;
            case 8: return "close " + box;
            default: return random.nextBoolean() ? "wait" : "wait " + random.nextInt(245);
        }
    }

    private void program() {
        StringBuilder text = new StringBuilder(someCommand());
        while (random.nextInt(3) != 0) {
            text.append(';').append(someCommand());
        }
        if (random.nextInt(3) == 0) {
            int place = random.nextInt(text.length());
            char letter = LETTERS.charAt(random.nextInt(LETTERS.length()));
            switch (random.nextInt(4)) {
                case 0: text.setCharAt(place, letter); break;
                case 1: text.insert(place, letter); break;
                case 2: text.deleteCharAt(place); break;
                default: text.setLength(place); break;
            }
        }
        for (int i = 0; i < text.length(); i++) {
            char letter = text.charAt(i);
            same("type " + letter, () -> vault.type(letter), () -> model.type(letter));
        }
        same("run " + text, vault::run, model::run);
        records();
    }

    private void records() {
        same("errorPosition", vault::errorPosition, model::errorPosition);
        same("failedCommand", vault::failedCommand, model::failedCommand);
        same("wasWrongCode", vault::wasWrongCode, model::wasWrongCode);
    }

    private void undo() {
        for (int i = random.nextInt(4) == 0 ? random.nextInt(10) : 1; i > 0; i--) {
            same("undo", vault::undo, model::undo);
        }
    }

    private void saveOrRestore() {
        if (random.nextBoolean()) {
            same("save", vault::save, model::save);
        } else {
            same("restore", vault::restore, model::restore);
        }
    }
}
