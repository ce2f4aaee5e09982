import java.util.ArrayList;
import java.util.List;
import java.util.regex.Matcher;
import java.util.regex.Pattern;

/**
 * The document once more, written apart from the program and in another way (lists, copies, a tree of
 * commands, exceptions), so that ModelTest can compare the two on long random runs.
 */
final class Model {
    record Sample(int tick, int height, int gust) {
    }

    record Token(String text, int offset) {
    }

    record Command(String word, int first, int second, List<Command> inside) {
    }

    static final class ParseError extends Exception {
        private static final long serialVersionUID = 1L;
        final int code;
        final int offset;

        ParseError(int code, int offset) {
            this.code = code;
            this.offset = offset;
        }
    }

    enum Mode { LANDED, FLYING, FALLEN }

    static final class State {
        Mode mode = Mode.LANDED;
        int area, limit, endurance, interval;
        int height, tether, wear, distance, beacon, flight, tick, launches, snaps, searches, dropped, made;
        List<Integer> gusts = new ArrayList<>();
        List<Integer> buffer = new ArrayList<>();
        List<Sample> logger = new ArrayList<>();
        List<Sample> archive = new ArrayList<>();

        State copy() {
            State s = new State();
            s.mode = mode;
            s.area = area;
            s.limit = limit;
            s.endurance = endurance;
            s.interval = interval;
            s.height = height;
            s.tether = tether;
            s.wear = wear;
            s.distance = distance;
            s.beacon = beacon;
            s.flight = flight;
            s.tick = tick;
            s.launches = launches;
            s.snaps = snaps;
            s.searches = searches;
            s.dropped = dropped;
            s.made = made;
            s.gusts.addAll(gusts);
            s.buffer.addAll(buffer);
            s.logger.addAll(logger);
            s.archive.addAll(archive);
            return s;
        }

        int gust(int t) {
            return gusts.get(t % gusts.size());
        }

        int load(int wind) {
            return Math.floorDiv(area * wind * wind, 8);
        }

        /** One tick, in the steps and the order of the document. */
        void pass() {
            boolean fallenBefore = mode == Mode.FALLEN;
            int wind = gust(tick) + height / 100;
            if (mode == Mode.FLYING) {
                flight++;
                if (buffer.size() == 8) {
                    buffer.remove(0);
                }
                buffer.add(wind);
                if (load(wind) > limit) {
                    wear += load(wind) - limit;
                }
                if (wear >= endurance) {
                    mode = Mode.FALLEN;
                    distance = wind * height / 10;
                    height = 0;
                    tether = 0;
                    beacon = 120;
                    snaps++;
                }
            }
            if (mode == Mode.FLYING) {
                height = wind >= 5 ? Math.min(tether, height + wind) : Math.max(0, height - (6 - wind));
                if (height == 0) {
                    mode = Mode.LANDED;
                }
            }
            if (mode == Mode.FLYING && flight % interval == 0) {
                if (logger.size() == 30) {
                    logger.remove(0);
                    dropped++;
                }
                made++;
                logger.add(new Sample(tick, height, buffer.stream().mapToInt(w -> w).max().orElseThrow()));
            }
            if (mode == Mode.FALLEN && fallenBefore) {
                beacon = Math.max(0, beacon - 1);
            }
            tick++;
        }
    }

    State now = new State();
    State snapshot = null;
    final List<State> before = new ArrayList<>();
    String input = "";
    String output = "";
    int errorCode = 0;
    int errorOffset = -1;

    Model() {
        now = parsedStation("kite 2 40 100;gusts 6 9 12 4 0 8;interval 3;");
    }

    private static State parsedStation(String text) {
        try {
            return parseStation(text);
        } catch (ParseError e) {
            throw new IllegalStateException("the first station is wrong");
        }
    }

    // ---- texts

    private static List<Token> tokens(String text) {
        List<Token> tokens = new ArrayList<>();
        Matcher matcher = Pattern.compile("[a-z]+|[0-9]+|[^ \n]").matcher(text);
        while (matcher.find()) {
            tokens.add(new Token(matcher.group(), matcher.start()));
        }
        tokens.add(new Token("", text.length()));
        return tokens;
    }

    private static final class Tokens {
        final List<Token> all;
        int at = 0;
        int commands = 0;

        Tokens(String text) {
            all = tokens(text);
        }

        String peek() {
            return all.get(at).text();
        }

        ParseError error(int code) {
            return new ParseError(code, all.get(at).offset());
        }

        void literal(String due) throws ParseError {
            if (!peek().equals(due)) {
                throw error(1);
            }
            at++;
        }

        int number(int low, int high) throws ParseError {
            int value = peekNumber(low, high);
            at++;
            return value;
        }

        int peekNumber(int low, int high) throws ParseError {
            if (!peek().matches("[0-9]+")) {
                throw error(1);
            }
            java.math.BigInteger value = new java.math.BigInteger(peek());
            if (value.compareTo(java.math.BigInteger.valueOf(low)) < 0
                    || value.compareTo(java.math.BigInteger.valueOf(high)) > 0) {
                throw error(2);
            }
            return value.intValueExact();
        }
    }

    private static State parseStation(String text) throws ParseError {
        Tokens t = new Tokens(text);
        State s = new State();
        t.literal("kite");
        s.area = t.number(1, 4);
        s.limit = t.number(1, 999);
        s.endurance = t.number(1, 9999);
        t.literal(";");
        t.literal("gusts");
        do {
            int gust = t.peekNumber(0, 30);
            if (s.gusts.size() == 16) {
                throw t.error(3);
            }
            s.gusts.add(gust);
            t.at++;
        } while (t.peek().matches("[0-9]+"));
        t.literal(";");
        t.literal("interval");
        s.interval = t.number(1, 20);
        t.literal(";");
        t.literal("");
        return s;
    }

    private static List<Command> parseScript(String text) throws ParseError {
        Tokens t = new Tokens(text);
        List<Command> commands = parseCommands(t, 0);
        t.literal("");
        return commands;
    }

    private static List<Command> parseCommands(Tokens t, int depth) throws ParseError {
        List<Command> commands = new ArrayList<>();
        while (t.peek().matches("[a-z]+")) {
            commands.add(parseCommand(t, depth));
            t.literal(";");
        }
        return commands;
    }

    private static Command parseCommand(Tokens t, int depth) throws ParseError {
        String word = t.peek();
        if (!List.of("launch", "out", "in", "bridle", "every", "search", "archive", "wait", "repeat").contains(word)) {
            throw t.error(1);
        }
        if (t.commands == 20 || word.equals("repeat") && depth == 2) {
            throw t.error(3);
        }
        t.commands++;
        t.at++;
        switch (word) {
            case "out", "in":
                return new Command(word, t.number(1, 200), 0, List.of());
            case "bridle": {
                int limit = t.number(1, 999);
                return new Command(word, limit, t.number(1, 9999), List.of());
            }
            case "every":
                return new Command(word, t.number(1, 20), 0, List.of());
            case "search":
                return new Command(word, t.number(0, 2200), 0, List.of());
            case "wait":
                return new Command(word, t.number(1, 60), 0, List.of());
            case "repeat": {
                int times = t.number(2, 5);
                t.literal("(");
                List<Command> inside = parseCommands(t, depth + 1);
                t.literal(")");
                return new Command(word, times, 0, inside);
            }
            default:
                return new Command(word, 0, 0, List.of());
        }
    }

    // ---- input

    int appendText(int... words) {
        if (input.length() + 20 > 500) {
            return -1;
        }
        StringBuilder text = new StringBuilder(input);
        for (int word : words) {
            for (int i = 0; i < 4; i++) {
                text.append((char) (word >> (24 - 8 * i) & 255));
            }
        }
        input = text.toString();
        return input.length();
    }

    private String takeText(int length) {
        need(length >= 0 && length <= input.length());
        String text = input.substring(0, length);
        input = "";
        errorCode = 0;
        errorOffset = -1;
        return text;
    }

    int loadStation(int length) {
        String text = takeText(length);
        try {
            now = parseStation(text);
        } catch (ParseError e) {
            return keep(e);
        }
        before.clear();
        snapshot = null;
        return now.gusts.size();
    }

    private int keep(ParseError e) {
        errorCode = e.code;
        errorOffset = e.offset;
        return -1;
    }

    int runScript(int length) {
        String text = takeText(length);
        List<Command> commands;
        try {
            commands = parseScript(text);
        } catch (ParseError e) {
            return keep(e);
        }
        State old = now.copy();
        List<State> history = new ArrayList<>(before);
        int[] executed = {0};
        try {
            execute(commands, executed);
        } catch (IllegalStateException | IllegalArgumentException e) {
            // The script stops here, and what it did stays.
        }
        before.clear();
        before.addAll(history);
        push(old);
        return executed[0];
    }

    private void execute(List<Command> commands, int[] executed) {
        for (Command c : commands) {
            if (c.word().equals("repeat")) {
                for (int i = 0; i < c.first(); i++) {
                    execute(c.inside(), executed);
                }
                continue;
            }
            switch (c.word()) {
                case "launch" -> launch();
                case "out" -> payOut(c.first());
                case "in" -> reelIn(c.first());
                case "bridle" -> replaceBridle(c.first(), c.second());
                case "every" -> setInterval(c.first());
                case "search" -> search(c.first());
                case "archive" -> archive();
                default -> passTicks(c.first());
            }
            executed[0]++;
        }
    }

    // ---- questions

    private static void need(boolean fits) {
        if (!fits) {
            throw new IllegalArgumentException();
        }
    }

    private static void needState(boolean fits) {
        if (!fits) {
            throw new IllegalStateException();
        }
    }

    int gust(int tick) {
        need(tick >= 0 && tick <= 9999);
        return now.gust(tick);
    }

    int windAt(int height) {
        need(height >= 0 && height <= 600);
        return now.gust(now.tick) + height / 100;
    }

    int loadOf(int wind) {
        need(wind >= 0 && wind <= 36);
        return now.load(wind);
    }

    double meanWind() {
        return now.buffer.stream().mapToInt(w -> w).average().orElse(0.0);
    }

    int greatestWind() {
        return now.buffer.stream().mapToInt(w -> w).max().orElse(0);
    }

    int bufferedWind(int index) {
        return index < 0 || index >= now.buffer.size() ? -1 : now.buffer.get(index);
    }

    static Sample sample(List<Sample> samples, int index) {
        if (index < 0 || index >= samples.size()) {
            throw new IndexOutOfBoundsException();
        }
        return samples.get(index);
    }

    int archivedBetween(int low, int high) {
        return (int) now.archive.stream().filter(s -> s.height() >= low && s.height() <= high).count();
    }

    int highestArchived() {
        int greatest = now.archive.stream().mapToInt(Sample::height).max().orElse(-1);
        for (int i = 0; i < now.archive.size(); i++) {
            if (now.archive.get(i).height() == greatest) {
                return i;
            }
        }
        return -1;
    }

    int archivedBefore(int tick) {
        int found = -1;
        for (int i = 0; i < now.archive.size(); i++) {
            found = now.archive.get(i).tick() <= tick ? i : found;
        }
        return found;
    }

    double meanGust(int layer) {
        need(layer >= 0 && layer <= 6);
        return now.archive.stream().filter(s -> s.height() / 100 == layer).mapToInt(Sample::gust).average().orElse(0.0);
    }

    float archivedShare() {
        return now.made == 0 ? 0f : (float) now.archive.size() / now.made;
    }

    int launchObstacle() {
        return now.mode == Mode.FLYING ? 1 : now.mode == Mode.FALLEN ? 2 : now.tether < 10 ? 3
                : now.gust(now.tick) < 5 ? 4 : 0;
    }

    int heightAfter(int ticks) {
        need(ticks >= 0 && ticks <= 100);
        State s = now.copy();
        for (int i = 0; i < ticks && s.tick <= 9999; i++) {
            s.pass();
        }
        return s.height;
    }

    int ticksToSnap() {
        State s = now.copy();
        for (int i = 1; i <= 200 && s.tick <= 9999; i++) {
            s.pass();
            if (s.snaps > now.snaps) {
                return i;
            }
        }
        return -1;
    }

    int safeHeight() {
        int found = -1;
        for (int height = 0; height <= 600; height++) {
            boolean safe = true;
            for (int gust : now.gusts) {
                safe &= now.load(gust + height / 100) <= now.limit;
            }
            found = safe ? height : found;
        }
        return found;
    }

    // ---- changes

    private void push(State old) {
        before.add(old);
        if (before.size() > 8) {
            before.remove(0);
        }
    }

    int launch() {
        needState(launchObstacle() == 0);
        push(now.copy());
        now.mode = Mode.FLYING;
        now.height = 10;
        now.flight = 0;
        now.buffer.clear();
        return ++now.launches;
    }

    int payOut(int meters) {
        need(meters >= 1 && meters <= 200);
        needState(now.mode != Mode.FALLEN && now.tether + meters <= 600);
        push(now.copy());
        return now.tether += meters;
    }

    int reelIn(int meters) {
        need(meters >= 1 && meters <= 200);
        needState(now.mode != Mode.FALLEN);
        push(now.copy());
        now.tether -= Math.min(meters, now.tether);
        if (now.height > now.tether) {
            now.height = now.tether;
        }
        if (now.mode == Mode.FLYING && now.height == 0) {
            now.mode = Mode.LANDED;
        }
        return now.tether;
    }

    int replaceBridle(int limit, int endurance) {
        need(limit >= 1 && limit <= 999 && endurance >= 1 && endurance <= 9999);
        needState(now.mode == Mode.LANDED);
        push(now.copy());
        int old = now.wear;
        now.wear = 0;
        now.limit = limit;
        now.endurance = endurance;
        return old;
    }

    int setInterval(int ticks) {
        need(ticks >= 1 && ticks <= 20);
        push(now.copy());
        int old = now.interval;
        now.interval = ticks;
        return old;
    }

    int search(int distance) {
        need(distance >= 0 && distance <= 2200);
        needState(now.mode == Mode.FALLEN);
        push(now.copy());
        now.searches++;
        int difference = Math.abs(distance - now.distance);
        if (difference <= 3 || difference <= 20 && now.beacon > 0) {
            now.mode = Mode.LANDED;
            return 0;
        }
        return now.beacon == 0 ? -1 : difference / 20;
    }

    int archive() {
        needState(now.mode == Mode.LANDED && now.archive.size() + now.logger.size() <= 90);
        push(now.copy());
        int moved = now.logger.size();
        now.archive.addAll(now.logger);
        now.logger.clear();
        return moved;
    }

    int passTicks(int ticks) {
        need(ticks >= 1 && ticks <= 60);
        needState(now.tick + ticks <= 10000);
        push(now.copy());
        int made = now.made;
        for (int i = 0; i < ticks; i++) {
            now.pass();
        }
        return now.made - made;
    }

    // ---- output and history

    int writeLogger() {
        List<String> parts = new ArrayList<>();
        for (Sample s : now.logger) {
            parts.add(s.tick() + "@" + s.height() + "," + s.gust());
        }
        output = String.join(" ", parts);
        return output.length();
    }

    int outputByte(int index) {
        if (index < 0 || index >= output.length()) {
            throw new IndexOutOfBoundsException();
        }
        return output.charAt(index);
    }

    int undo() {
        needState(!before.isEmpty());
        now = before.remove(before.size() - 1);
        return before.size();
    }

    int saveSnapshot() {
        snapshot = now.copy();
        return 0;
    }

    int restoreSnapshot() {
        needState(snapshot != null);
        now = snapshot.copy();
        before.clear();
        return now.tick;
    }
}
