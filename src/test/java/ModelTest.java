import java.util.Random;

/** Long random runs (always the same ones), in which every answer is compared with that of the model. */
public final class ModelTest {
    private static final String[] STATIONS = {
        "kite 2 40 100;gusts 6 9 12 4 0 8;interval 3;",
        "kite 1 999 9999;gusts 20;interval 1;",
        "kite 4 648 9999;gusts 30 7;interval 2;",
        "kite 4 30 120;gusts 5 9 3 14;interval 1;",
        "kite 3 1 400;gusts 8 7 6 5 4 3 2 1 0 9 10 11;interval 4;",
        "kite 2 12 35;gusts 7 8;interval 20;",
        "kite 1 80 60;gusts 30 0 0 30 6;interval 5;",
        "kite 1 3 9999;gusts 5 0;interval 7;",
    };

    private final Random random;
    private final KiteLogger x = new KiteLogger();
    private final Model model = new Model();
    private final String run;

    private ModelTest(int seed) {
        random = new Random(seed);
        run = "run " + seed + ": ";
    }

    public static void main(String[] args) {
        for (int seed = 1; seed <= 400; seed++) {
            new ModelTest(seed).compare();
        }
        Check.end();
    }

    private void compare() {
        if (random.nextInt(8) > 0) {
            load(STATIONS[random.nextInt(STATIONS.length)]);
        }
        for (int call = 0; call < 400; call++) {
            step();
            if (call % 4 == 0) {
                compareState();
            }
        }
        compareState();
    }

    private void step() {
        int choice = random.nextInt(100);
        if (choice < 26) {
            int ticks = random.nextInt(20) == 0 ? number(-1, 62) : number(1, random.nextBoolean() ? 8 : 60);
            both("passTicks(" + ticks + ")", () -> x.passTicks(ticks), () -> model.passTicks(ticks));
        } else if (choice < 38) {
            both("launch()", x::launch, model::launch);
        } else if (choice < 50) {
            int meters = number(-1, 203);
            both("payOut(" + meters + ")", () -> x.payOut(meters), () -> model.payOut(meters));
        } else if (choice < 54) {
            int meters = number(-1, 203);
            both("reelIn(" + meters + ")", () -> x.reelIn(meters), () -> model.reelIn(meters));
        } else if (choice < 60) {
            int limit = random.nextBoolean() ? number(-1, 60) : number(900, 1001);
            int endurance = random.nextBoolean() ? number(-1, 300) : number(9900, 10001);
            both("replaceBridle(" + limit + ", " + endurance + ")",
                    () -> x.replaceBridle(limit, endurance), () -> model.replaceBridle(limit, endurance));
        } else if (choice < 64) {
            int ticks = number(-1, 22);
            both("setInterval(" + ticks + ")", () -> x.setInterval(ticks), () -> model.setInterval(ticks));
        } else if (choice < 72) {
            search();
        } else if (choice < 77) {
            both("archive()", x::archive, model::archive);
        } else if (choice < 82) {
            both("undo()", x::undo, model::undo);
        } else {
            rareStep(choice);
        }
    }

    private void search() {
        int near = model.now.distance + number(-45, 45);
        int distance = random.nextInt(4) > 0 ? near : number(-2, 2203);
        both("search(" + distance + ")", () -> x.search(distance), () -> model.search(distance));
    }

    private void rareStep(int choice) {
        if (choice < 84) {
            x.saveSnapshot();
            model.saveSnapshot();
        } else if (choice < 86) {
            both("restoreSnapshot()", x::restoreSnapshot, model::restoreSnapshot);
        } else if (choice < 88) {
            both("writeLogger()", x::writeLogger, model::writeLogger);
        } else if (choice < 89) {
            int a = random.nextInt();
            both("appendText(" + a + ", ..)", () -> x.appendText(a, 1, -2, 3, ~a), () -> model.appendText(a, 1, -2, 3, ~a));
        } else if (choice < 90) {
            int length = number(-1, model.input.length() + 1);
            both("runScript(" + length + ")", () -> x.runScript(length), () -> model.runScript(length));
        } else if (choice < 91) {
            load(spoiled(STATIONS[random.nextInt(STATIONS.length)]));
        } else {
            String script = script(new StringBuilder(), 0, 1 + random.nextInt(6));
            run(random.nextInt(3) == 0 ? spoiled(script) : script);
        }
    }

    private int number(int low, int high) {
        return low + random.nextInt(high - low + 1);
    }

    private String script(StringBuilder text, int depth, int commands) {
        for (int i = 0; i < commands; i++) {
            String blank = random.nextInt(4) == 0 ? "\n " : " ";
            switch (random.nextInt(10)) {
                case 0 -> text.append("launch");
                case 1, 2 -> text.append("out").append(blank).append(number(1, 200));
                case 3 -> text.append("in ").append(number(1, 200));
                case 4 -> text.append("bridle ").append(number(1, 999)).append(blank).append(number(1, 9999));
                case 5 -> text.append("every ").append(number(1, 20));
                case 6 -> text.append("search ").append(number(0, 2200));
                case 7 -> text.append("archive").append(blank);
                case 8 -> text.append("wait ").append(number(1, 60));
                default -> {
                    text.append("repeat ").append(number(2, 5)).append("(");
                    if (depth < 3) {
                        script(text, depth + 1, random.nextInt(4));
                    }
                    text.append(")");
                }
            }
            text.append(";");
        }
        return text.toString();
    }

    private String spoiled(String text) {
        StringBuilder spoiled = new StringBuilder(text);
        String signs = "0123456789;;() \nabkz(repeat2(repeat2(#A\t\u00e9";
        for (int i = random.nextInt(3); i >= 0 && spoiled.length() > 0; i--) {
            int place = random.nextInt(spoiled.length());
            char sign = signs.charAt(random.nextInt(signs.length()));
            switch (random.nextInt(4)) {
                case 0 -> spoiled.setCharAt(place, sign);
                case 1 -> spoiled.insert(place, sign);
                case 2 -> spoiled.deleteCharAt(place);
                default -> spoiled.setLength(place);
            }
        }
        return spoiled.toString();
    }

    private void append(String text) {
        byte[] bytes = text.getBytes(java.nio.charset.StandardCharsets.ISO_8859_1);
        for (int i = 0; i < bytes.length; i += 20) {
            int a = Check.four(bytes, i);
            int b = Check.four(bytes, i + 4);
            int c = Check.four(bytes, i + 8);
            int d = Check.four(bytes, i + 12);
            int e = Check.four(bytes, i + 16);
            both("appendText", () -> x.appendText(a, b, c, d, e), () -> model.appendText(a, b, c, d, e));
        }
    }

    private void load(String text) {
        append(text);
        both("loadStation " + text, () -> x.loadStation(text.length()), () -> model.loadStation(text.length()));
    }

    private void run(String text) {
        append(text);
        both("runScript " + text, () -> x.runScript(text.length()), () -> model.runScript(text.length()));
    }

    private void both(String what, Check.Call program, Check.Call due) {
        Check.same(run + what, Check.answer(due), Check.answer(program));
    }

    private void compareState() {
        compareWind();
        compareKite();
        compareSamples();
        compareForecasts();
        both("errorCode()", x::errorCode, () -> model.errorCode);
        both("errorOffset()", x::errorOffset, () -> model.errorOffset);
        both("undoableCount()", x::undoableCount, model.before::size);
        int index = number(-1, 365);
        both("outputByte(" + index + ")", () -> x.outputByte(index), () -> model.outputByte(index));
    }

    private void compareWind() {
        both("tick()", x::tick, () -> model.now.tick);
        both("patternLength()", x::patternLength, () -> model.now.gusts.size());
        int tick = number(-1, 10001);
        both("gust(" + tick + ")", () -> x.gust(tick), () -> model.gust(tick));
        int height = number(-1, 601);
        both("windAt(" + height + ")", () -> x.windAt(height), () -> model.windAt(height));
        both("bufferSize()", x::bufferSize, () -> model.now.buffer.size());
        for (int i = -1; i < 9; i++) {
            int index = i;
            both("bufferedWind(" + i + ")", () -> x.bufferedWind(index), () -> model.bufferedWind(index));
        }
        both("greatestWind()", x::greatestWind, model::greatestWind);
        both("meanWind()", x::meanWind, model::meanWind);
    }

    private void compareKite() {
        Model.State s = model.now;
        boolean flying = s.mode == Model.Mode.FLYING;
        boolean fallen = s.mode == Model.Mode.FALLEN;
        both("isLanded()", x::isLanded, () -> !flying && !fallen);
        both("isFlying()", x::isFlying, () -> flying);
        both("isFallen()", x::isFallen, () -> fallen);
        both("height()", x::height, () -> s.height);
        both("tether()", x::tether, () -> s.tether);
        both("area()", x::area, () -> s.area);
        both("limit()", x::limit, () -> s.limit);
        both("endurance()", x::endurance, () -> s.endurance);
        both("wear()", x::wear, () -> s.wear);
        int wind = number(-1, 37);
        both("loadOf(" + wind + ")", () -> x.loadOf(wind), () -> model.loadOf(wind));
        both("flightTime()", x::flightTime, () -> flying ? s.flight : 0);
        both("beaconTime()", x::beaconTime, () -> fallen ? s.beacon : 0);
        both("launches()", x::launches, () -> s.launches);
        both("snaps()", x::snaps, () -> s.snaps);
        both("searches()", x::searches, () -> s.searches);
    }

    private void compareSamples() {
        Model.State s = model.now;
        both("interval()", x::interval, () -> s.interval);
        both("loggedCount()", x::loggedCount, s.logger::size);
        both("droppedCount()", x::droppedCount, () -> s.dropped);
        both("archivedCount()", x::archivedCount, s.archive::size);
        for (int i = -1; i <= s.logger.size(); i++) {
            int index = i;
            both("loggedTick(" + i + ")", () -> x.loggedTick(index), () -> Model.sample(s.logger, index).tick());
            both("loggedHeight(" + i + ")", () -> x.loggedHeight(index), () -> Model.sample(s.logger, index).height());
            both("loggedGust(" + i + ")", () -> x.loggedGust(index), () -> Model.sample(s.logger, index).gust());
        }
        for (int i = -1; i <= s.archive.size(); i++) {
            int index = i;
            both("archivedTick(" + i + ")", () -> x.archivedTick(index), () -> Model.sample(s.archive, index).tick());
            both("archivedHeight(" + i + ")", () -> x.archivedHeight(index), () -> Model.sample(s.archive, index).height());
            both("archivedGust(" + i + ")", () -> x.archivedGust(index), () -> Model.sample(s.archive, index).gust());
        }
        int low = number(-5, 605);
        int high = number(-5, 605);
        both("archivedBetween(" + low + ", " + high + ")", () -> x.archivedBetween(low, high), () -> model.archivedBetween(low, high));
        both("highestArchived()", x::highestArchived, model::highestArchived);
        int tick = number(-2, s.tick + 2);
        both("archivedBefore(" + tick + ")", () -> x.archivedBefore(tick), () -> model.archivedBefore(tick));
        int layer = number(-1, 7);
        both("meanGust(" + layer + ")", () -> x.meanGust(layer), () -> model.meanGust(layer));
        both("archivedShare()", x::archivedShare, model::archivedShare);
        both("gap()", x::gap, () -> 0);
    }

    private void compareForecasts() {
        both("launchObstacle()", x::launchObstacle, model::launchObstacle);
        int ticks = number(-1, 101);
        both("heightAfter(" + ticks + ")", () -> x.heightAfter(ticks), () -> model.heightAfter(ticks));
        both("ticksToSnap()", x::ticksToSnap, model::ticksToSnap);
        both("safeHeight()", x::safeHeight, model::safeHeight);
    }
}
