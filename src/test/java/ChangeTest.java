/** Promises 49 to 57: the changes, one by one and in scripts. */
public final class ChangeTest {
    private static final String STRONG = "kite 1 999 9999;gusts 10;interval 1;";
    private static final String WEARING = "kite 4 40 100;gusts 10;interval 1;";
    private static final int[] OUTSIDE_200 = {0, -1, 201, Integer.MIN_VALUE, Integer.MAX_VALUE};

    public static void main(String[] args) {
        launch();
        launchRefuses();
        payOut();
        reelIn();
        reelInOfTheFlyingKite();
        replaceBridle();
        replaceBridleRefuses();
        setInterval();
        search();
        searchWithSilentBeacon();
        searchRefuses();
        archive();
        archiveLimit();
        passTicks();
        passTicksToTheEnd();
        refusedCallsChangeNothing();
        scriptLength();
        scripts();
        scriptThatStops();
        repeats();
        scriptOfEveryCommand();
        Check.end();
    }

    /** Fallen at a distance of 50 from the station. */
    private static KiteLogger fallen() {
        KiteLogger x = Check.station(WEARING);
        Check.run(x, "out 50;launch;wait 10;");
        Check.same("16: isFallen", true, x.isFallen());
        return x;
    }

    private static void launch() {
        KiteLogger x = Check.station(STRONG);
        x.payOut(10);
        Check.same("49: first launch", 1, x.launch());
        Check.same("15: isFlying", true, x.isFlying());
        Check.same("17: height", 10, x.height());
        Check.same("18: tether", 10, x.tether());
        x.passTicks(3);
        Check.run(x, "in 10;out 30;");
        Check.same("10: bufferSize", 3, x.bufferSize());
        Check.same("49: second launch", 2, x.launch());
        Check.same("10: bufferSize", 0, x.bufferSize());
        Check.same("24: flightTime", 0, x.flightTime());
        Check.same("22: wear", 0, x.wear());
    }

    private static void launchRefuses() {
        KiteLogger x = Check.station("kite 1 999 9999;gusts 4 5;interval 1;");
        Check.refuses("49: without tether", Check.STATE, x::launch);
        x.payOut(10);
        Check.refuses("49: without wind", Check.STATE, x::launch);
        x.passTicks(1);
        Check.same("49: with both", 1, x.launch());
        Check.refuses("49: flying", Check.STATE, x::launch);
        KiteLogger y = fallen();
        Check.refuses("49: fallen", Check.STATE, y::launch);
    }

    private static void payOut() {
        KiteLogger x = Check.station(STRONG);
        Check.same("50: least", 1, x.payOut(1));
        Check.same("50: greatest", 201, x.payOut(200));
        x.launch();
        Check.same("50: in the air", 401, x.payOut(200));
        Check.refuses("50: 601", Check.STATE, () -> x.payOut(200));
        Check.same("50: 600", 600, x.payOut(199));
        Check.refuses("50: 601", Check.STATE, () -> x.payOut(1));
        for (int wrong : OUTSIDE_200) {
            Check.refuses("50: out of range comes first " + wrong, Check.ARGUMENT, () -> x.payOut(wrong));
        }
        KiteLogger y = fallen();
        Check.refuses("50: fallen", Check.STATE, () -> y.payOut(1));
        Check.refuses("50: out of range comes first", Check.ARGUMENT, () -> y.payOut(0));
    }

    private static void reelIn() {
        KiteLogger x = Check.station(STRONG);
        Check.same("51: without tether", 0, x.reelIn(1));
        x.payOut(150);
        Check.same("51: some", 149, x.reelIn(1));
        Check.same("51: landed", true, x.isLanded());
        Check.same("51: more than there is", 0, x.reelIn(200));
        x.payOut(200);
        Check.same("51: just all", 0, x.reelIn(200));
        for (int wrong : OUTSIDE_200) {
            Check.refuses("51: " + wrong, Check.ARGUMENT, () -> x.reelIn(wrong));
        }
        KiteLogger y = fallen();
        Check.refuses("51: fallen", Check.STATE, () -> y.reelIn(1));
        Check.refuses("51: out of range comes first", Check.ARGUMENT, () -> y.reelIn(201));
    }

    private static void reelInOfTheFlyingKite() {
        KiteLogger x = Check.station(STRONG);
        Check.run(x, "out 100;launch;wait 5;");
        Check.same("17: height", 60, x.height());
        Check.same("51: tether above the kite", 60, x.reelIn(40));
        Check.same("17: height stays", 60, x.height());
        Check.same("51: tether below the kite", 59, x.reelIn(1));
        Check.same("17: height becomes the tether", 59, x.height());
        Check.same("51: 1 meter", 1, x.reelIn(58));
        Check.same("15: still flying", true, x.isFlying());
        Check.same("24: flightTime", 5, x.flightTime());
        Check.same("51: no tether", 0, x.reelIn(1));
        Check.same("14: landed", true, x.isLanded());
        Check.same("17: height", 0, x.height());
        Check.same("24: flightTime", 0, x.flightTime());
        Check.same("30: samples stay", 5, x.loggedCount());
    }

    private static void replaceBridle() {
        KiteLogger x = Check.station(WEARING);
        Check.run(x, "out 50;launch;wait 3;in 50;");
        Check.same("52: wear of the old one", 30, x.replaceBridle(1, 1));
        Check.same("22: wear of the new one", 0, x.wear());
        Check.same("20: limit", 1, x.limit());
        Check.same("21: endurance", 1, x.endurance());
        Check.same("52: wear of the old one", 0, x.replaceBridle(999, 9999));
        Check.same("20: limit", 999, x.limit());
        Check.same("21: endurance", 9999, x.endurance());
        KiteLogger y = fallen();
        y.search(50);
        Check.same("52: wear of the torn one", 100, y.replaceBridle(999, 9999));
        Check.run(y, "out 50;launch;wait 20;");
        Check.same("15: it holds", true, y.isFlying());
    }

    private static void replaceBridleRefuses() {
        KiteLogger x = Check.station(WEARING);
        Check.refuses("52: limit 0", Check.ARGUMENT, () -> x.replaceBridle(0, 1));
        Check.refuses("52: limit 1000", Check.ARGUMENT, () -> x.replaceBridle(1000, 1));
        Check.refuses("52: endurance 0", Check.ARGUMENT, () -> x.replaceBridle(1, 0));
        Check.refuses("52: endurance 10000", Check.ARGUMENT, () -> x.replaceBridle(1, 10000));
        Check.run(x, "out 50;launch;");
        Check.refuses("52: flying", Check.STATE, () -> x.replaceBridle(1, 1));
        Check.refuses("52: out of range comes first", Check.ARGUMENT, () -> x.replaceBridle(1, 0));
        Check.same("20: limit", 40, x.limit());
        KiteLogger y = fallen();
        Check.refuses("52: fallen", Check.STATE, () -> y.replaceBridle(1, 1));
        Check.refuses("52: out of range comes first", Check.ARGUMENT, () -> y.replaceBridle(-1, 1));
    }

    private static void setInterval() {
        KiteLogger x = new KiteLogger();
        Check.same("53: before", 3, x.setInterval(1));
        Check.same("53: before", 1, x.setInterval(20));
        for (int wrong : new int[] {0, -1, 21, Integer.MIN_VALUE, Integer.MAX_VALUE}) {
            Check.refuses("53: " + wrong, Check.ARGUMENT, () -> x.setInterval(wrong));
        }
        Check.same("29: interval", 20, x.interval());
        Check.run(x, "out 50;launch;");
        Check.same("53: flying", 20, x.setInterval(2));
        KiteLogger y = fallen();
        Check.same("53: fallen", 1, y.setInterval(2));
    }

    private static void search() {
        int[] distances = {70, 30, 50, 71, 29, 89, 90, 10, 9, 0, 2200};
        int[] answers = {0, 0, 0, 1, 1, 1, 2, 2, 2, 2, 107};
        for (int i = 0; i < distances.length; i++) {
            KiteLogger x = fallen();
            Check.same("54: at " + distances[i], answers[i], x.search(distances[i]));
            Check.same("14: landed by " + distances[i], answers[i] == 0, x.isLanded());
            Check.same("16: fallen by " + distances[i], answers[i] != 0, x.isFallen());
            Check.same("25: beacon by " + distances[i], answers[i] == 0 ? 0 : 120, x.beaconTime());
            Check.same("28: searches", 1, x.searches());
            Check.same("22: the bridle is still worn", 100, x.wear());
            Check.same("18: tether", 0, x.tether());
        }
        KiteLogger y = Check.station("kite 1 1 5000;gusts 30;interval 20;");
        Check.run(y, "out 200;out 200;out 200;launch;wait 60;");
        Check.same("16: a kite that falls from high", true, y.isFallen());
        // It snaps with a wind of 36 at 600 meters: 36 * 600 / 10.
        Check.same("54: 2160 - 2139", 1, y.search(2139));
        Check.same("54: 2160 - 2140", 0, y.search(2140));
    }

    private static void searchWithSilentBeacon() {
        KiteLogger x = fallen();
        Check.run(x, "wait 60;wait 59;");
        Check.same("54: the last tick of the beacon", 1, x.search(71));
        Check.same("54: the last tick of the beacon", 0, x.search(70));
        x.undo();
        x.passTicks(1);
        Check.same("25: silent", 0, x.beaconTime());
        Check.same("54: silent, 20", -1, x.search(70));
        Check.same("54: silent, 4", -1, x.search(54));
        Check.same("54: silent, 4", -1, x.search(46));
        Check.same("54: silent, far", -1, x.search(2200));
        Check.same("54: silent, 3", 0, x.search(53));
        Check.same("14: landed", true, x.isLanded());
        x.undo();
        Check.same("54: silent, 3", 0, x.search(47));
        x.undo();
        Check.same("54: silent, 0", 0, x.search(50));
    }

    private static void searchRefuses() {
        KiteLogger x = fallen();
        for (int wrong : new int[] {-1, 2201, Integer.MIN_VALUE, Integer.MAX_VALUE}) {
            Check.refuses("54: " + wrong, Check.ARGUMENT, () -> x.search(wrong));
        }
        Check.same("28: none of them counts", 0, x.searches());
        x.search(50);
        Check.refuses("54: landed", Check.STATE, () -> x.search(50));
        Check.refuses("54: out of range comes first", Check.ARGUMENT, () -> x.search(-1));
        KiteLogger y = Check.station(STRONG);
        Check.run(y, "out 50;launch;");
        Check.refuses("54: flying", Check.STATE, () -> y.search(50));
    }

    private static void archive() {
        KiteLogger x = Check.station(STRONG);
        Check.same("55: no sample", 0, x.archive());
        Check.same("60: still a change", 1, x.undoableCount());
        Check.run(x, "out 50;launch;wait 4;");
        Check.refuses("55: flying", Check.STATE, x::archive);
        Check.same("30: the samples stay", 4, x.loggedCount());
        x.reelIn(50);
        Check.same("55: four samples", 4, x.archive());
        Check.same("55: no sample again", 0, x.archive());
        KiteLogger y = fallen();
        Check.refuses("55: fallen", Check.STATE, y::archive);
    }

    private static void archiveLimit() {
        KiteLogger x = Check.station(STRONG);
        for (int i = 1; i <= 3; i++) {
            Check.run(x, i < 3 ? "out 50;launch;wait 30;in 50;" : "out 50;launch;wait 29;in 50;");
            Check.same("55: samples of flight " + i, i < 3 ? 30 : 29, x.archive());
        }
        Check.same("35: 89 samples", 89, x.archivedCount());
        Check.run(x, "out 50;launch;wait 2;in 50;");
        Check.refuses("55: 91 samples", Check.STATE, x::archive);
        Check.same("30: the logger is as it was", 2, x.loggedCount());
        Check.same("35: the archive is as it was", 89, x.archivedCount());
        x.undo();
        Check.run(x, "out 50;launch;wait 1;in 50;");
        Check.same("55: 90 samples", 1, x.archive());
        Check.same("35: 90 samples", 90, x.archivedCount());
        Check.same("36: the last tick", 89, x.archivedTick(89));
        Check.same("44: gap", 0, x.gap());
        Check.same("55: nothing more", 0, x.archive());
    }

    private static void passTicks() {
        KiteLogger x = Check.station("kite 1 999 9999;gusts 10;interval 7;");
        Check.same("56: on the ground", 0, x.passTicks(60));
        Check.same("6: tick", 60, x.tick());
        Check.run(x, "out 50;launch;");
        Check.same("56: 6 ticks", 0, x.passTicks(6));
        Check.same("56: 1 tick", 1, x.passTicks(1));
        Check.same("56: 60 ticks", 8, x.passTicks(60));
        for (int wrong : new int[] {0, -1, 61, Integer.MIN_VALUE, Integer.MAX_VALUE}) {
            Check.refuses("56: " + wrong, Check.ARGUMENT, () -> x.passTicks(wrong));
        }
        Check.same("6: tick", 127, x.tick());
        KiteLogger y = Check.station(WEARING);
        Check.run(y, "out 50;launch;");
        Check.same("56: up to the snap", 9, y.passTicks(60));
        Check.same("25: the rest of the ticks is the beacon's", 70, y.beaconTime());
        Check.same("56: fallen", 0, y.passTicks(60));
    }

    private static void passTicksToTheEnd() {
        KiteLogger x = Check.station(STRONG);
        for (int i = 0; i < 166; i++) {
            x.passTicks(60);
        }
        Check.same("6: tick", 9960, x.tick());
        Check.refuses("56: 41 ticks", Check.STATE, () -> x.passTicks(41));
        Check.refuses("56: out of range comes first", Check.ARGUMENT, () -> x.passTicks(61));
        Check.same("6: no tick has passed", 9960, x.tick());
        Check.run(x, "out 50;launch;");
        Check.same("56: 40 ticks", 40, x.passTicks(40));
        Check.same("6: tick", 10000, x.tick());
        Check.same("31: the last tick", 9999, x.loggedTick(29));
        Check.refuses("56: beyond the end", Check.STATE, () -> x.passTicks(1));
        Check.same("57: beyond the end", 1, Check.run(x, "in 1;wait 1;in 1;"));
    }

    private static void refusedCallsChangeNothing() {
        KiteLogger x = fallen();
        x.passTicks(1);
        int undoable = x.undoableCount();
        Check.refuses("49", Check.STATE, x::launch);
        Check.refuses("50", Check.STATE, () -> x.payOut(10));
        Check.refuses("51", Check.STATE, () -> x.reelIn(10));
        Check.refuses("52", Check.STATE, () -> x.replaceBridle(7, 7));
        Check.refuses("53", Check.ARGUMENT, () -> x.setInterval(21));
        Check.refuses("54", Check.ARGUMENT, () -> x.search(2201));
        Check.refuses("55", Check.STATE, x::archive);
        Check.refuses("56", Check.ARGUMENT, () -> x.passTicks(61));
        Check.refuses("57", Check.ARGUMENT, () -> x.runScript(1));
        Check.same("60: no change was kept", undoable, x.undoableCount());
        Check.same("25: beaconTime", 119, x.beaconTime());
        Check.same("22: wear", 100, x.wear());
        Check.same("21: endurance", 100, x.endurance());
        Check.same("26: launches", 1, x.launches());
        Check.same("28: searches", 0, x.searches());
        Check.same("30: loggedCount", 9, x.loggedCount());
        Check.same("6: tick", 11, x.tick());
    }

    private static void scriptLength() {
        KiteLogger x = new KiteLogger();
        Check.refuses("57: empty buffer", Check.ARGUMENT, () -> x.runScript(1));
        Check.append(x, "out 10;");
        Check.refuses("57: negative", Check.ARGUMENT, () -> x.runScript(-1));
        Check.refuses("57: above the buffer", Check.ARGUMENT, () -> x.runScript(21));
        Check.refuses("57: greatest", Check.ARGUMENT, () -> x.runScript(Integer.MAX_VALUE));
        Check.same("57: the buffer is still there", 1, x.runScript(7));
        Check.same("18: tether", 10, x.tether());
        Check.same("57: the buffer is emptied", 20, x.appendText(0, 0, 0, 0, 0));
        Check.same("57: parse error", -1, x.runScript(20));
        Check.same("57: the buffer is emptied by an error", 20, x.appendText(0, 0, 0, 0, 0));
        Check.same("57: no text", 0, x.runScript(0));
        Check.same("57: the buffer is emptied by no text", 20, x.appendText(0, 0, 0, 0, 0));
        Check.same("60: two scripts that could be read", 2, x.undoableCount());
    }

    private static void scripts() {
        KiteLogger x = Check.station(STRONG);
        Check.same("57: two commands", 2, Check.run(x, "out 50;launch;"));
        Check.same("60: one change", 1, x.undoableCount());
        Check.same("57: an error in the last command", -1, Check.run(x, "wait 5;wait 61;"));
        Check.same("6: nothing was executed", 0, x.tick());
        Check.same("60: no change", 1, x.undoableCount());
        Check.same("57: no command", 0, Check.run(x, ""));
        Check.same("60: still a change", 2, x.undoableCount());
        Check.same("57: 20 commands", 20, Check.run(x, "wait 60;".repeat(20)));
        Check.same("6: tick", 1200, x.tick());
    }

    private static void scriptThatStops() {
        KiteLogger x = Check.station(STRONG);
        Check.same("57: stops at the first", 0, Check.run(x, "launch;out 50;"));
        Check.same("18: the second is not executed", 0, x.tether());
        Check.same("60: still a change", 1, x.undoableCount());
        Check.same("57: stops at the third", 2, Check.run(x, "out 50;wait 2;search 0;wait 5;"));
        Check.same("6: what was executed stays", 2, x.tick());
        x.undo();
        Check.same("6: one undo takes all of it back", 0, x.tick());
        Check.same("18: one undo takes all of it back", 0, x.tether());
        // The third round asks for 700 meters.
        Check.same("57: stops within a repeat", 4, Check.run(x, "repeat 5(out 200;out 50;);every 9;"));
        Check.same("18: tether", 500, x.tether());
        Check.same("29: what follows is not executed", 1, x.interval());
        KiteLogger y = Check.station(STRONG);
        String inner = "repeat 3(wait 1;repeat 2(out 200;wait 1;);wait 1;);wait 9;";
        Check.same("57: stops within two repeats", 9, Check.run(y, inner));
        Check.same("6: tick", 6, y.tick());
        Check.same("18: tether", 600, y.tether());
    }

    private static void repeats() {
        KiteLogger x = Check.station(STRONG);
        Check.same("57: 3 times", 3, Check.run(x, "repeat 3(wait 1;);"));
        Check.same("6: tick", 3, x.tick());
        Check.same("57: a repeat itself does not count", 0, Check.run(x, "repeat 5();"));
        Check.same("57: 5 times 5", 30, Check.run(x, "repeat 5(repeat 5(wait 2;);wait 1;);"));
        Check.same("6: tick", 58, x.tick());
        Check.same("57: in order", 13, Check.run(x, "repeat 2(wait 1;repeat 2(out 1;);out 2;repeat 2(in 1;););wait 60;"));
        Check.same("18: tether", 4, x.tether());
        Check.same("6: tick", 120, x.tick());
        Check.same("60: each script is one change", 4, x.undoableCount());
        // Two repeats behind one another, then a command behind both.
        Check.same("57: one behind the other", 6, Check.run(x, "repeat 2(out 3;);repeat 3(wait 1;);in 1;"));
        Check.same("18: tether", 9, x.tether());
        Check.same("6: tick", 123, x.tick());
    }

    private static void scriptOfEveryCommand() {
        KiteLogger x = Check.station(WEARING);
        String script = "out 60;in 10;every 2;launch;wait 10;search 2000;search 50;archive;bridle 30 70;";
        Check.same("57: every command", 9, Check.run(x, script));
        Check.same("26: launches", 1, x.launches());
        Check.same("27: snaps", 1, x.snaps());
        Check.same("28: searches", 2, x.searches());
        Check.same("29: interval", 2, x.interval());
        Check.same("20: limit", 30, x.limit());
        Check.same("21: endurance", 70, x.endurance());
        Check.same("22: wear", 0, x.wear());
        Check.same("35: archivedCount", 4, x.archivedCount());
        Check.same("36: ticks", 1 + 3 + 5 + 7, x.archivedTick(0) + x.archivedTick(1) + x.archivedTick(2) + x.archivedTick(3));
        Check.same("6: tick", 10, x.tick());
        Check.same("14: landed", true, x.isLanded());
    }
}
