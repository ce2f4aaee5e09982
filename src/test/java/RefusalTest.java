import java.util.ArrayList;
import java.util.List;

/**
 * "A method that throws an exception changes nothing." Each call that the document refuses is made on one of two
 * equal objects, in each mode of the kite and at each limit; then the two must be equal in all that can be seen
 * at once and later (input buffer, history, snapshot, place of the fallen kite). The same is asked of the calls
 * that only answer.
 */
public final class RefusalTest {
    interface Maker {
        KiteLogger make();
    }

    interface Act {
        Object on(KiteLogger x);
    }

    private static final int LEAST = Integer.MIN_VALUE;
    private static final int GREATEST = Integer.MAX_VALUE;

    public static void main(String[] args) {
        Maker[] scenes = {KiteLogger::new, RefusalTest::landed, RefusalTest::flying, RefusalTest::fallen,
            RefusalTest::silent, RefusalTest::lastTick};
        for (int i = 0; i < scenes.length; i++) {
            String scene = "scene " + i + ", ";
            refusedQuestions(scene, scenes[i]);
            refusedSamples(scene, scenes[i]);
            refusedChanges(scene, scenes[i]);
            answers(scene, scenes[i]);
        }
        refusedStates();
        refusedAtLimits();
        refusedHistory();
        Check.end();
    }

    // ---- the scenes, each with a snapshot, an output, a parse error, a text in the buffer and a history

    private static KiteLogger landed() {
        KiteLogger x = Check.station("kite 4 40 8000;gusts 10;interval 1;");
        Check.run(x, "out 50;launch;wait 35;in 200;");
        x.saveSnapshot();
        x.writeLogger();
        x.archive();
        Check.run(x, "out 60;launch;wait 5;in 40;in 200;");
        Check.load(x, "kite 7");
        Check.append(x, "out 3;");
        return x;
    }

    private static KiteLogger flying() {
        KiteLogger x = landed();
        x.payOut(70);
        x.launch();
        x.passTicks(3);
        return x;
    }

    private static KiteLogger fallen() {
        KiteLogger x = landed();
        x.replaceBridle(40, 30);
        x.payOut(70);
        x.launch();
        x.passTicks(5);
        Check.same("16: the scene is fallen", true, x.isFallen());
        return x;
    }

    private static KiteLogger silent() {
        KiteLogger x = Check.station("kite 4 40 30;gusts 10;interval 1;");
        x.payOut(50);
        x.launch();
        x.passTicks(3);
        x.saveSnapshot();
        x.writeLogger();
        Check.run(x, "repeat 2(wait 60;);");
        Check.same("25: the scene's beacon is silent", 0, x.beaconTime());
        Check.run(x, "wait");
        Check.append(x, "out 3;");
        return x;
    }

    private static KiteLogger lastTick() {
        KiteLogger x = Check.station("kite 1 999 9999;gusts 10;interval 20;");
        Check.run(x, "repeat 5(repeat 5(wait 60;wait 60;wait 60;wait 60;wait 60;wait 60;););wait 60;");
        Check.run(x, "repeat 3(repeat 5(wait 60;););out 50;launch;");
        x.saveSnapshot();
        Check.run(x, "out 3;");
        x.passTicks(40);
        Check.same("6: the scene is at the last tick", 10000, x.tick());
        x.writeLogger();
        Check.append(x, "out 3;");
        return x;
    }

    private static KiteLogger fullArchive() {
        KiteLogger x = Check.station("kite 1 999 9999;gusts 10;interval 1;");
        Check.run(x, "repeat 2(out 50;launch;wait 30;in 50;archive;);out 50;launch;wait 29;in 50;archive;");
        x.saveSnapshot();
        Check.run(x, "out 50;launch;wait 2;in 50;");
        Check.same("35: the scene's archive", 89, x.archivedCount());
        Check.same("30: the scene's logger", 2, x.loggedCount());
        Check.append(x, "out 3;");
        return x;
    }

    private static KiteLogger longTether() {
        KiteLogger x = new KiteLogger();
        Check.run(x, "out 200;out 200;");
        x.payOut(199);
        Check.append(x, "in 3;");
        return x;
    }

    private static KiteLogger calm() {
        KiteLogger x = Check.station("kite 1 999 9999;gusts 5 4;interval 1;");
        x.payOut(10);
        x.passTicks(1);
        Check.append(x, "out 3;");
        return x;
    }

    // ---- comparing

    private static void refused(String what, Class<? extends RuntimeException> due, Maker maker, Act act) {
        KiteLogger x = maker.make();
        Check.refuses(what, due, () -> act.on(x));
        sameAs(what, maker.make(), x);
    }

    private static void unchanged(String what, Maker maker, Act act) {
        KiteLogger x = maker.make();
        Check.answer(() -> act.on(x));
        sameAs(what, maker.make(), x);
    }

    private static void sameAs(String what, KiteLogger due, KiteLogger x) {
        Sight.same(what + " changes at once", Sight.of(due), Sight.of(x));
        Sight.same(what + " changes for later", aftermath(due), aftermath(x));
    }

    /** What shows only later: the place of the fallen kite, the buffer, the history and the snapshot. */
    private static List<String> aftermath(KiteLogger x) {
        List<String> lines = new ArrayList<>();
        for (int place = 0; place < 100 && x.isFallen(); place++) {
            lines.add("search " + place + " = " + x.search(place));
            x.undo();
        }
        lines.add("appendText = " + x.appendText(0x20202020, 0x20202020, 0x20202020, 0x20202020, 0x6f757420));
        lines.add("runScript = " + Check.answer(() -> x.runScript(20)));
        lines.addAll(Sight.of(x));
        while (x.undoableCount() > 0) {
            lines.add("undo = " + x.undo());
            lines.addAll(Sight.of(x));
        }
        lines.add("restoreSnapshot = " + Check.answer(x::restoreSnapshot));
        lines.addAll(Sight.of(x));
        return lines;
    }

    // ---- refused in every scene

    private static void refusedQuestions(String scene, Maker maker) {
        for (int wrong : new int[] {-1, 10000, LEAST, GREATEST}) {
            refused(scene + "8: gust " + wrong, Check.ARGUMENT, maker, x -> x.gust(wrong));
        }
        for (int wrong : new int[] {-1, 601, LEAST, GREATEST}) {
            refused(scene + "9: windAt " + wrong, Check.ARGUMENT, maker, x -> x.windAt(wrong));
        }
        for (int wrong : new int[] {-1, 37, LEAST, GREATEST}) {
            refused(scene + "23: loadOf " + wrong, Check.ARGUMENT, maker, x -> x.loadOf(wrong));
        }
        for (int wrong : new int[] {-1, 7, LEAST, GREATEST}) {
            refused(scene + "42: meanGust " + wrong, Check.ARGUMENT, maker, x -> x.meanGust(wrong));
        }
        for (int wrong : new int[] {-1, 101, LEAST, GREATEST}) {
            refused(scene + "46: heightAfter " + wrong, Check.ARGUMENT, maker, x -> x.heightAfter(wrong));
        }
    }

    private static int outputLength(KiteLogger x) {
        int length = 0;
        while (Check.answer(index(x, length)) instanceof Integer) {
            length++;
        }
        return length;
    }

    private static Check.Call index(KiteLogger x, int index) {
        return () -> x.outputByte(index);
    }

    private static void refusedSamples(String scene, Maker maker) {
        for (int wrong : new int[] {-1, LEAST, GREATEST}) {
            refused(scene + "31: " + wrong, Check.INDEX, maker, x -> x.loggedTick(wrong));
            refused(scene + "32: " + wrong, Check.INDEX, maker, x -> x.loggedHeight(wrong));
            refused(scene + "33: " + wrong, Check.INDEX, maker, x -> x.loggedGust(wrong));
            refused(scene + "36: " + wrong, Check.INDEX, maker, x -> x.archivedTick(wrong));
            refused(scene + "37: " + wrong, Check.INDEX, maker, x -> x.archivedHeight(wrong));
            refused(scene + "38: " + wrong, Check.INDEX, maker, x -> x.archivedGust(wrong));
            refused(scene + "59: " + wrong, Check.INDEX, maker, x -> x.outputByte(wrong));
        }
        refused(scene + "31: behind the last", Check.INDEX, maker, x -> x.loggedTick(x.loggedCount()));
        refused(scene + "32: behind the last", Check.INDEX, maker, x -> x.loggedHeight(x.loggedCount()));
        refused(scene + "33: behind the last", Check.INDEX, maker, x -> x.loggedGust(x.loggedCount()));
        refused(scene + "36: behind the last", Check.INDEX, maker, x -> x.archivedTick(x.archivedCount()));
        refused(scene + "37: behind the last", Check.INDEX, maker, x -> x.archivedHeight(x.archivedCount()));
        refused(scene + "38: behind the last", Check.INDEX, maker, x -> x.archivedGust(x.archivedCount()));
        refused(scene + "59: behind the last", Check.INDEX, maker, x -> x.outputByte(outputLength(x)));
    }

    private static void refusedChanges(String scene, Maker maker) {
        for (int wrong : new int[] {-1, 21, 501, LEAST, GREATEST}) {
            refused(scene + "3: loadStation " + wrong, Check.ARGUMENT, maker, x -> x.loadStation(wrong));
            refused(scene + "57: runScript " + wrong, Check.ARGUMENT, maker, x -> x.runScript(wrong));
        }
        for (int wrong : new int[] {0, -1, 201, LEAST, GREATEST}) {
            refused(scene + "50: payOut " + wrong, Check.ARGUMENT, maker, x -> x.payOut(wrong));
            refused(scene + "51: reelIn " + wrong, Check.ARGUMENT, maker, x -> x.reelIn(wrong));
        }
        for (int wrong : new int[] {0, -1, 1000, LEAST, GREATEST}) {
            refused(scene + "52: limit " + wrong, Check.ARGUMENT, maker, x -> x.replaceBridle(wrong, 5));
        }
        for (int wrong : new int[] {0, -1, 10000, LEAST, GREATEST}) {
            refused(scene + "52: endurance " + wrong, Check.ARGUMENT, maker, x -> x.replaceBridle(5, wrong));
        }
        for (int wrong : new int[] {0, -1, 21, LEAST, GREATEST}) {
            refused(scene + "53: setInterval " + wrong, Check.ARGUMENT, maker, x -> x.setInterval(wrong));
        }
        for (int wrong : new int[] {-1, 2201, LEAST, GREATEST}) {
            refused(scene + "54: search " + wrong, Check.ARGUMENT, maker, x -> x.search(wrong));
        }
        for (int wrong : new int[] {0, -1, 61, LEAST, GREATEST}) {
            refused(scene + "56: passTicks " + wrong, Check.ARGUMENT, maker, x -> x.passTicks(wrong));
        }
    }

    // ---- refused because of the state

    private static void refusedStates() {
        for (Maker maker : new Maker[] {KiteLogger::new, RefusalTest::landed}) {
            refused("49: without tether", Check.STATE, maker, KiteLogger::launch);
            refused("54: landed", Check.STATE, maker, x -> x.search(0));
            refused("54: landed", Check.STATE, maker, x -> x.search(2200));
        }
        for (Maker maker : new Maker[] {RefusalTest::flying, RefusalTest::lastTick}) {
            refused("49: flying", Check.STATE, maker, KiteLogger::launch);
            refused("52: flying", Check.STATE, maker, x -> x.replaceBridle(5, 5));
            refused("54: flying", Check.STATE, maker, x -> x.search(50));
            refused("55: flying", Check.STATE, maker, KiteLogger::archive);
        }
        for (Maker maker : new Maker[] {RefusalTest::fallen, RefusalTest::silent}) {
            refused("49: fallen", Check.STATE, maker, KiteLogger::launch);
            refused("50: fallen", Check.STATE, maker, x -> x.payOut(1));
            refused("51: fallen", Check.STATE, maker, x -> x.reelIn(1));
            refused("52: fallen", Check.STATE, maker, x -> x.replaceBridle(5, 5));
            refused("55: fallen", Check.STATE, maker, KiteLogger::archive);
        }
    }

    private static void refusedAtLimits() {
        refused("49: a wind of 4", Check.STATE, RefusalTest::calm, KiteLogger::launch);
        refused("50: 599 meters and 2", Check.STATE, RefusalTest::longTether, x -> x.payOut(2));
        refused("50: 599 meters and 200", Check.STATE, RefusalTest::longTether, x -> x.payOut(200));
        refused("55: 89 samples and 2", Check.STATE, RefusalTest::fullArchive, KiteLogger::archive);
        refused("56: a tick beyond the last", Check.STATE, RefusalTest::lastTick, x -> x.passTicks(1));
        refused("56: 60 ticks beyond the last", Check.STATE, RefusalTest::lastTick, x -> x.passTicks(60));
    }

    private static void refusedHistory() {
        refused("61: nothing to undo", Check.STATE, KiteLogger::new, KiteLogger::undo);
        refused("61: nothing to undo", Check.STATE, RefusalTest::restored, KiteLogger::undo);
        refused("63: no snapshot", Check.STATE, KiteLogger::new, KiteLogger::restoreSnapshot);
        refused("63: no snapshot", Check.STATE, RefusalTest::longTether, KiteLogger::restoreSnapshot);
        refused("63: no snapshot", Check.STATE, RefusalTest::loadedAgain, KiteLogger::restoreSnapshot);
    }

    private static KiteLogger restored() {
        KiteLogger x = flying();
        x.restoreSnapshot();
        return x;
    }

    private static KiteLogger loadedAgain() {
        KiteLogger x = new KiteLogger();
        x.saveSnapshot();
        Check.load(x, "kite 1 2 3;gusts 4;interval 5;");
        return x;
    }

    // ---- calls that only answer

    private static void answers(String scene, Maker maker) {
        unchanged(scene + "45: launchObstacle", maker, KiteLogger::launchObstacle);
        for (int ticks : new int[] {0, 1, 100}) {
            unchanged(scene + "46: heightAfter " + ticks, maker, x -> x.heightAfter(ticks));
        }
        unchanged(scene + "47: ticksToSnap", maker, KiteLogger::ticksToSnap);
        unchanged(scene + "48: safeHeight", maker, KiteLogger::safeHeight);
        unchanged(scene + "a look at everything", maker, Sight::of);
    }
}
