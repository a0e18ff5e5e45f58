import java.util.ArrayList;
import java.util.List;
import java.util.NoSuchElementException;
import java.util.regex.Matcher;
import java.util.regex.Pattern;

/** The document told again in the plainest way, slow and with copies of everything. */
final class Model {
    private static final Pattern PROGRAM = Pattern.compile("(?:C)(?:;(?:C))*".replace("C",
            "holder N|box D&D\\+N|tide N/N|turn D D=N|code D N>N|put D=N|take D|close D|wait(?: N)?"
                    .replace("N", "[0-9]{1,3}").replace("D", "[0-9]")));

    private static final class Holder {
        int code;
        int attempts;
        int lockEnd;
    }

    private static final class Box {
        int one;
        int other;
        int delay;
        char status = 'c';
        int first;
        int remaining;
        int since;
        List<Integer> pearls = new ArrayList<>();
    }

    private static final class World {
        int time;
        int period = 240;
        int low = 60;
        int alarm;
        int told;
        int wrong;
        long in;
        long out;
        List<Holder> holders = new ArrayList<>();
        List<Box> boxes = new ArrayList<>();
        List<String> events = new ArrayList<>();

        World copy() {
            World copy = new World();
            copy.time = time;
            copy.period = period;
            copy.low = low;
            copy.alarm = alarm;
            copy.told = told;
            copy.wrong = wrong;
            copy.in = in;
            copy.out = out;
            for (Holder holder : holders) {
                Holder twin = new Holder();
                twin.code = holder.code;
                twin.attempts = holder.attempts;
                twin.lockEnd = holder.lockEnd;
                copy.holders.add(twin);
            }
            for (Box box : boxes) {
                Box twin = new Box();
                twin.one = box.one;
                twin.other = box.other;
                twin.delay = box.delay;
                twin.status = box.status;
                twin.first = box.first;
                twin.remaining = box.remaining;
                twin.since = box.since;
                twin.pearls.addAll(box.pearls);
                copy.boxes.add(twin);
            }
            copy.events.addAll(events);
            return copy;
        }
    }

    private World world = new World();
    private World saved;
    private final List<World> past = new ArrayList<>();
    private String buffer = "";
    private String line = "";
    private int errorAt = -1;
    private int failed = -1;
    private boolean failedByCode;

    private static void need(boolean condition, RuntimeException otherwise) {
        if (!condition) {
            throw otherwise;
        }
    }

    private static RuntimeException index() {
        return new IndexOutOfBoundsException();
    }

    private static RuntimeException argument() {
        return new IllegalArgumentException();
    }

    private static RuntimeException state() {
        return new IllegalStateException();
    }

    private static RuntimeException element() {
        return new NoSuchElementException();
    }

    private Holder holder(int number) {
        need(number >= 0 && number < world.holders.size(), index());
        return world.holders.get(number);
    }

    private Box box(int number) {
        need(number >= 0 && number < world.boxes.size(), index());
        return world.boxes.get(number);
    }

    private void change() {
        past.add(world.copy());
        if (past.size() > 8) {
            past.remove(0);
        }
    }

    private void event(char kind, int number) {
        world.events.add("" + kind + number + "@" + world.time);
        if (world.events.size() > 12) {
            world.events.remove(0);
        }
    }

    private boolean low(int time) {
        return time % world.period < world.low;
    }

    Object addHolder(int code) {
        need(code >= 0 && code <= 999, argument());
        need(world.holders.size() < 8, state());
        change();
        Holder holder = new Holder();
        holder.code = code;
        world.holders.add(holder);
        return world.holders.size() - 1;
    }

    Object addBox(int one, int other, int delay) {
        holder(one);
        holder(other);
        need(one != other && delay >= 0 && delay <= 60, argument());
        need(world.boxes.size() < 10, state());
        change();
        Box box = new Box();
        box.one = one;
        box.other = other;
        box.delay = delay;
        world.boxes.add(box);
        return world.boxes.size() - 1;
    }

    Object setTide(int period, int low) {
        need(period >= 60 && period <= 480 && low >= 10 && low <= period, argument());
        change();
        int before = world.period;
        world.period = period;
        world.low = low;
        return before;
    }

    private void tell(int number, int code) {
        change();
        Holder holder = world.holders.get(number);
        world.told++;
        if (holder.code == code) {
            holder.attempts = 0;
            return;
        }
        world.wrong++;
        holder.attempts++;
        world.alarm = Math.min(99, world.alarm + 10);
        event('f', number);
        if (holder.attempts == 3) {
            holder.attempts = 0;
            holder.lockEnd = world.time + 30;
            world.alarm = Math.min(99, world.alarm + 25);
            event('l', number);
        }
        throw new UnsupportedOperationException();
    }

    Object turnKey(int number, int who, int code) {
        Box box = box(number);
        Holder holder = holder(who);
        need(box.one == who || box.other == who, argument());
        need(world.alarm < 50, state());
        need(world.time >= holder.lockEnd, state());
        need(box.status != 'p' && box.status != 'o', state());
        need(box.status != 'h' || box.first != who, state());
        tell(who, code);
        if (box.status == 'c') {
            box.status = 'h';
            box.first = who;
            box.since = world.time;
        } else {
            box.status = 'p';
            box.remaining = box.delay;
            if (box.remaining == 0 && low(world.time)) {
                open(number);
            }
        }
        return box.status;
    }

    private void open(int number) {
        world.boxes.get(number).status = 'o';
        world.boxes.get(number).since = world.time;
        event('o', number);
    }

    Object changeCode(int who, int code, int newCode) {
        Holder holder = holder(who);
        need(newCode >= 0 && newCode <= 999, argument());
        need(world.time >= holder.lockEnd, state());
        int before = holder.attempts;
        tell(who, code);
        holder.code = newCode;
        return before;
    }

    Object deposit(int number, int value) {
        Box box = box(number);
        need(value >= 1 && value <= 99, argument());
        need(box.status == 'o' && box.pearls.size() < 5, state());
        change();
        box.pearls.add(value);
        world.in += value;
        event('d', number);
        return box.pearls.size();
    }

    Object withdraw(int number) {
        Box box = box(number);
        need(box.status == 'o', state());
        need(!box.pearls.isEmpty(), element());
        change();
        int best = box.pearls.stream().max(Integer::compare).get();
        box.pearls.remove((Integer) best);
        world.out += best;
        event('w', number);
        return best;
    }

    Object close(int number) {
        Box box = box(number);
        need(box.status != 'c', state());
        change();
        if (box.status == 'o') {
            event('c', number);
        }
        box.status = 'c';
        return box.pearls.size();
    }

    Object pass(int minutes) {
        need(minutes >= 1 && minutes <= 240, argument());
        change();
        int opened = 0;
        for (int i = 0; i < minutes; i++) {
            opened += minute();
        }
        return opened;
    }

    private int minute() {
        for (Box box : world.boxes) {
            if (low(world.time) && box.status == 'p' && box.remaining > 0) {
                box.remaining--;
            }
        }
        world.time++;
        if (world.time % 5 == 0 && world.alarm > 0) {
            world.alarm--;
        }
        int opened = 0;
        for (int i = 0; i < world.boxes.size(); i++) {
            if (low(world.time) && world.boxes.get(i).status == 'p' && world.boxes.get(i).remaining == 0) {
                open(i);
                opened++;
            }
        }
        for (int i = 0; i < world.boxes.size(); i++) {
            Box box = world.boxes.get(i);
            if (box.status == 'h' && box.since + 5 <= world.time) {
                box.status = 'c';
            } else if (box.status == 'o' && box.since + 10 <= world.time) {
                box.status = 'c';
                event('c', i);
            }
        }
        return opened;
    }

    Object lowMinutes(int minutes) {
        need(minutes >= 0 && minutes <= 1000, argument());
        int number = 0;
        for (int t = world.time; t < world.time + minutes; t++) {
            number += low(t) ? 1 : 0;
        }
        return number;
    }

    Object ofHolder(char what, int number) {
        Holder holder = holder(number);
        if (what == 'a') {
            return holder.attempts;
        }
        if (what == 'm') {
            return Math.max(0, holder.lockEnd - world.time);
        }
        return (int) world.boxes.stream().filter(b -> b.one == number || b.other == number).count();
    }

    Object otherHolder(int number, int who) {
        Box box = box(number);
        need(box.one == who || box.other == who, argument());
        return box.one + box.other - who;
    }

    Object ofBox(char what, int number) {
        Box box = box(number);
        switch (what) {
            case 's':
                return box.status;
            case 'n':
                return box.pearls.size();
            case 'f':
                need(box.status == 'h', element());
                return box.first;
            case 'r':
                need(box.status == 'p', element());
                return box.remaining;
            default:
                need(box.status == 'p', element());
                return untilOpen(number);
        }
    }

    private int untilOpen(int number) {
        World before = world;
        world = before.copy();
        int minutes = 0;
        while (world.boxes.get(number).status == 'p') {
            minute();
            minutes++;
        }
        world = before;
        return minutes;
    }

    Object pearl(int number, int index) {
        Box box = box(number);
        need(index >= 0 && index < box.pearls.size(), element());
        return box.pearls.get(index);
    }

    private int sum(int number) {
        return world.boxes.get(number).pearls.stream().mapToInt(Integer::intValue).sum();
    }

    Object boxByValue(int rank) {
        need(rank >= 0 && rank < world.boxes.size(), element());
        List<Integer> numbers = new ArrayList<>();
        for (int i = 0; i < world.boxes.size(); i++) {
            numbers.add(i);
        }
        numbers.sort((a, b) -> sum(b) - sum(a));
        return numbers.get(rank);
    }

    private int allPearls() {
        return world.boxes.stream().mapToInt(b -> b.pearls.size()).sum();
    }

    Object meanValue() {
        need(allPearls() > 0, new ArithmeticException());
        return (double) (world.in - world.out) / allPearls();
    }

    Object failureRate() {
        need(world.told > 0, new ArithmeticException());
        return (float) world.wrong / world.told;
    }

    Object simple(char what) {
        switch (what) {
            case 't': return world.time;
            case 'l': return low(world.time);
            case 'a': return world.alarm;
            case 'h': return world.holders.size();
            case 'b': return world.boxes.size();
            case 'v': return world.in - world.out;
            case 'e': return world.events.size();
            default: return true;
        }
    }

    Object ofEvent(char what, int number) {
        need(number >= 0 && number < world.events.size(), element());
        String event = world.events.get(number);
        if (what == 'k') {
            return event.charAt(0);
        }
        return what == 'n' ? event.charAt(1) - '0' : Integer.parseInt(event.substring(3));
    }

    Object writeBox(int number) {
        Box box = box(number);
        line = number + "" + box.status + ":" + box.pearls.toString().replaceAll("[\\[\\] ]", "");
        return line.length();
    }

    Object writeEvents() {
        line = String.join(" ", world.events).replaceAll("@[0-9]+", "");
        return line.length();
    }

    Object charAt(int index) {
        need(index >= 0 && index < line.length(), index());
        return line.charAt(index);
    }

    Object type(char character) {
        need(buffer.length() < 60, state());
        buffer += character;
        return buffer.length();
    }

    Object run() {
        String text = buffer;
        buffer = "";
        if (!PROGRAM.matcher(text).matches()) {
            errorAt = errorIn(text);
            throw new IllegalArgumentException();
        }
        String[] commands = text.split(";");
        World before = world.copy();
        List<World> pastBefore = new ArrayList<>(past);
        for (int i = 0; i < commands.length; i++) {
            try {
                execute(commands[i]);
            } catch (RuntimeException e) {
                world = before;
                past.clear();
                past.addAll(pastBefore);
                failed = i;
                failedByCode = e instanceof UnsupportedOperationException;
                throw new UnsupportedOperationException();
            }
        }
        past.clear();
        past.addAll(pastBefore);
        World after = world;
        world = before;
        change();
        world = after;
        return commands.length;
    }

    private static int errorIn(String text) {
        for (int i = 0; i < text.length(); i++) {
            Matcher matcher = PROGRAM.matcher(text.substring(0, i + 1));
            if (!matcher.matches() && !matcher.hitEnd()) {
                return i;
            }
        }
        return text.length();
    }

    private void execute(String command) {
        String[] words = command.split("[^a-z0-9]");
        int[] n = new int[4];
        for (int i = 1; i < words.length; i++) {
            n[i] = Integer.parseInt(words[i]);
        }
        switch (words[0]) {
            case "holder": addHolder(n[1]); break;
            case "box": addBox(n[1], n[2], n[3]); break;
            case "tide": setTide(n[1], n[2]); break;
            case "turn": turnKey(n[1], n[2], n[3]); break;
            case "code": changeCode(n[1], n[2], n[3]); break;
            case "put": deposit(n[1], n[2]); break;
            case "take": withdraw(n[1]); break;
            case "close": close(n[1]); break;
            default: pass(words.length == 1 ? 1 : n[1]); break;
        }
    }

    Object errorPosition() {
        need(errorAt >= 0, element());
        return errorAt;
    }

    Object failedCommand() {
        need(failed >= 0, element());
        return failed;
    }

    Object wasWrongCode() {
        need(failed >= 0, element());
        return failedByCode;
    }

    Object undo() {
        need(!past.isEmpty(), state());
        world = past.remove(past.size() - 1);
        return past.size();
    }

    Object save() {
        saved = world.copy();
        return world.boxes.size();
    }

    Object restore() {
        need(saved != null, state());
        world = saved.copy();
        past.clear();
        return world.boxes.size();
    }

    int codeOf(int number) {
        return number >= 0 && number < world.holders.size() ? world.holders.get(number).code : 0;
    }

    int partner(int number, int which) {
        if (number < 0 || number >= world.boxes.size()) {
            return 0;
        }
        return which == 0 ? world.boxes.get(number).one : world.boxes.get(number).other;
    }
}
