/** Promises 58 to 63: the output, undo and the snapshot. */
public final class HistoryTest {
    private static final String SEVEN = "kite 1 999 9999;gusts 10 7;interval 2;";

    public static void main(String[] args) {
        writeLogger();
        outputByte();
        zeroDigits();
        longOutput();
        undoableCount();
        undoOfEachChange();
        undoOfCounts();
        undoOfWindsAndSamples();
        undoKeeps();
        undoAfterUndo();
        snapshot();
        snapshotKeepsAll();
        Check.end();
    }

    private static void writeLogger() {
        KiteLogger x = Check.station(SEVEN);
        Check.same("58: empty", 0, x.writeLogger());
        Check.run(x, "out 200;launch;wait 2;");
        Check.same("58: one sample", 7, x.writeLogger());
        Check.same("58: one sample", "1@27,10", Check.output(x, 7));
        x.passTicks(12);
        String all = "1@27,10 3@44,10 5@61,10 7@78,10 9@95,10 11@113,10 13@132,11";
        Check.same("58: seven samples", all.length(), x.writeLogger());
        Check.same("58: seven samples", all, Check.output(x, all.length()));
        KiteLogger y = Check.station("kite 1 999 9999;gusts 5 0;interval 3;");
        Check.run(y, "out 50;launch;wait 18;");
        String small = "2@14,5 5@7,5 8@11,5 11@4,5 14@8,5 17@1,5";
        Check.same("58: numbers of one digit", small.length(), y.writeLogger());
        Check.same("58: numbers of one digit", small, Check.output(y, small.length()));
    }

    private static void outputByte() {
        KiteLogger x = Check.station(SEVEN);
        Check.run(x, "out 200;launch;wait 4;");
        Check.refuses("59: nothing is written", Check.INDEX, () -> x.outputByte(0));
        int length = x.writeLogger();
        Check.same("59: first", 49, x.outputByte(0));
        Check.same("59: at sign", 64, x.outputByte(1));
        Check.same("59: comma", 44, x.outputByte(4));
        Check.same("59: space", 32, x.outputByte(7));
        Check.same("59: last", 48, x.outputByte(length - 1));
        for (int wrong : new int[] {-1, length, 500, Integer.MIN_VALUE, Integer.MAX_VALUE}) {
            Check.refuses("59: " + wrong, Check.INDEX, () -> x.outputByte(wrong));
        }
        Check.run(x, "wait 4;in 200;archive;");
        Check.same("59: the output changes in writeLogger only", "1@27,10 3@44,10", Check.output(x, length));
        Check.same("58: empty again", 0, x.writeLogger());
        Check.refuses("59: the output is replaced", Check.INDEX, () -> x.outputByte(0));
    }

    private static void zeroDigits() {
        KiteLogger x = Check.station("kite 1 999 9999;gusts 10;interval 1;");
        Check.run(x, "out 100;launch;wait 1;");
        Check.same("58: tick 0", "0@20,10", Check.output(x, x.writeLogger()));
        Check.run(x, "in 100;archive;repeat 4(repeat 4(wait 60;););wait 38;out 100;launch;wait 2;");
        Check.same("58: ticks 999 and 1000", "999@20,10 1000@30,10", Check.output(x, x.writeLogger()));
        Check.run(x, "in 100;archive;wait 8;out 100;launch;wait 20;in 100;archive;every 9;out 100;launch;wait 9;");
        Check.same("58: height 100", "1037@100,10", Check.output(x, x.writeLogger()));
    }

    private static void longOutput() {
        KiteLogger x = Check.station("kite 1 999 9999;gusts 30;interval 1;");
        Check.run(x, "repeat 5(repeat 5(wait 60;wait 60;wait 60;wait 60;wait 60;wait 60;););wait 60;");
        Check.run(x, "wait 60;wait 60;wait 60;wait 60;wait 60;wait 60;wait 60;wait 60;wait 60;");
        Check.same("6: tick", 9600, x.tick());
        Check.run(x, "out 200;out 200;out 200;launch;wait 60;wait 60;wait 60;wait 60;wait 60;wait 60;wait 40;");
        Check.same("6: tick", 10000, x.tick());
        StringBuilder due = new StringBuilder("9970@600,36");
        for (int tick = 9971; tick < 10000; tick++) {
            due.append(" ").append(tick).append("@600,36");
        }
        Check.same("58: 30 long samples", 359, x.writeLogger());
        Check.same("58: 30 long samples", due.toString(), Check.output(x, 359));
        Check.refuses("59: behind the last byte", Check.INDEX, () -> x.outputByte(359));
    }

    private static void undoableCount() {
        KiteLogger x = new KiteLogger();
        for (int i = 1; i <= 10; i++) {
            x.passTicks(1);
            Check.same("60: after " + i + " changes", Math.min(i, 8), x.undoableCount());
        }
        for (int i = 7; i >= 0; i--) {
            Check.same("61: undo", i, x.undo());
            Check.same("6: tick", 2 + i, x.tick());
            Check.same("60: after the undo", i, x.undoableCount());
        }
        Check.refuses("61: the ninth", Check.STATE, x::undo);
        Check.same("6: an older change stays", 2, x.tick());
    }

    private static void undoOfEachChange() {
        KiteLogger x = Check.station("kite 4 40 100;gusts 10;interval 1;");
        x.payOut(60);
        x.reelIn(10);
        x.setInterval(2);
        x.replaceBridle(41, 90);
        x.launch();
        x.passTicks(10);
        x.search(50);
        x.archive();
        Check.same("35: archivedCount", 4, x.archivedCount());
        Check.same("61: archive", 7, x.undo());
        Check.same("35: archivedCount", 0, x.archivedCount());
        Check.same("30: loggedCount", 4, x.loggedCount());
        Check.same("31: loggedTick", 7, x.loggedTick(3));
        Check.same("61: search", 6, x.undo());
        Check.same("16: fallen", true, x.isFallen());
        Check.same("25: beaconTime", 120, x.beaconTime());
        Check.same("28: searches", 0, x.searches());
        Check.same("61: passTicks", 5, x.undo());
        Check.same("15: flying", true, x.isFlying());
        Check.same("17: height", 10, x.height());
        Check.same("30: loggedCount", 0, x.loggedCount());
        Check.same("10: bufferSize", 0, x.bufferSize());
        Check.same("27: snaps", 0, x.snaps());
        Check.same("22: wear", 0, x.wear());
        Check.same("61: launch", 4, x.undo());
        Check.same("14: landed", true, x.isLanded());
        Check.same("26: launches", 0, x.launches());
        Check.same("61: replaceBridle", 3, x.undo());
        Check.same("20: limit", 40, x.limit());
        Check.same("21: endurance", 100, x.endurance());
        Check.same("61: setInterval", 2, x.undo());
        Check.same("29: interval", 1, x.interval());
        Check.same("61: reelIn", 1, x.undo());
        Check.same("18: tether", 60, x.tether());
        Check.same("61: payOut", 0, x.undo());
        Check.same("18: tether", 0, x.tether());
    }

    private static void undoOfCounts() {
        KiteLogger x = Check.station("kite 4 40 8000;gusts 10;interval 1;");
        Check.run(x, "out 50;launch;wait 25;");
        x.passTicks(10);
        Check.same("34: dropped", 5, x.droppedCount());
        Check.same("22: wear", 350, x.wear());
        x.undo();
        Check.same("34: dropped", 0, x.droppedCount());
        Check.same("22: wear", 250, x.wear());
        Check.same("24: flightTime", 25, x.flightTime());
        Check.same("44: gap", 0, x.gap());
        Check.same("31: oldest sample", 0, x.loggedTick(0));
        Check.same("56: the same once more", 10, x.passTicks(10));
        Check.same("34: dropped", 5, x.droppedCount());
        Check.same("31: oldest sample", 5, x.loggedTick(0));
        Check.run(x, "in 200;archive;");
        Check.same("43: share", 30.0f / 35.0f, x.archivedShare());
        x.undo();
        Check.same("43: share", 0.0f, x.archivedShare());
        Check.same("15: flying", true, x.isFlying());
    }

    private static void undoOfWindsAndSamples() {
        KiteLogger x = Check.station("kite 1 999 9999;gusts 11 12 13 14 15 16 17 18 19 20 9;interval 1;");
        Check.run(x, "out 200;launch;wait 20;");
        String before = windsAndSamples(x);
        Check.same("61: the winds before", true, before.startsWith("13 15 16 17 18 19 20 21 "));
        x.saveSnapshot();
        Check.run(x, "wait 19;in 200;archive;out 30;launch;wait 7;");
        x.undo();
        Check.same("61: winds and samples", before, windsAndSamples(x));
        Check.run(x, "wait 40;in 200;archive;out 20;launch;wait 3;");
        x.restoreSnapshot();
        Check.same("63: winds and samples", before, windsAndSamples(x));
        Check.run(x, "in 200;archive;");
        String archived = archivedSamples(x);
        Check.run(x, "out 30;launch;wait 9;in 30;archive;");
        x.undo();
        Check.same("61: archived samples", archived, archivedSamples(x));
        Check.same("61: as they were logged", before.substring(24), archived);
    }

    private static String windsAndSamples(KiteLogger x) {
        StringBuilder text = new StringBuilder();
        for (int i = 0; i < x.bufferSize(); i++) {
            text.append(x.bufferedWind(i)).append(" ");
        }
        for (int i = 0; i < x.loggedCount(); i++) {
            text.append(x.loggedTick(i) + "@" + x.loggedHeight(i) + "," + x.loggedGust(i) + " ");
        }
        return text.toString();
    }

    private static String archivedSamples(KiteLogger x) {
        StringBuilder text = new StringBuilder();
        for (int i = 0; i < x.archivedCount(); i++) {
            text.append(x.archivedTick(i) + "@" + x.archivedHeight(i) + "," + x.archivedGust(i) + " ");
        }
        return text.toString();
    }

    private static void undoKeeps() {
        KiteLogger x = Check.station(SEVEN);
        Check.run(x, "out 200;launch;wait 2;");
        x.saveSnapshot();
        x.writeLogger();
        Check.load(x, "kite 7");
        x.passTicks(5);
        Check.append(x, "out 7;");
        x.undo();
        x.undo();
        Check.same("61: the output is not affected", "1@27,10", Check.output(x, 7));
        Check.same("61: the error's code is not affected", 2, x.errorCode());
        Check.same("61: the error's offset is not affected", 5, x.errorOffset());
        Check.same("61: the input buffer is not affected", 1, x.runScript(6));
        Check.same("18: tether", 7, x.tether());
        Check.same("61: the snapshot is not affected", 2, x.restoreSnapshot());
        Check.same("18: tether", 200, x.tether());
    }

    private static void undoAfterUndo() {
        KiteLogger x = new KiteLogger();
        Check.refuses("61: nothing", Check.STATE, x::undo);
        for (int i = 0; i < 12; i++) {
            x.payOut(1);
        }
        x.undo();
        x.undo();
        x.payOut(100);
        Check.same("60: six older ones and a new one", 7, x.undoableCount());
        Check.same("61: the new one", 6, x.undo());
        Check.same("18: tether", 10, x.tether());
        for (int i = 9; i >= 4; i--) {
            x.undo();
            Check.same("18: tether", i, x.tether());
        }
        Check.refuses("61: no more", Check.STATE, x::undo);
    }

    private static void snapshot() {
        KiteLogger x = new KiteLogger();
        Check.refuses("63: no snapshot", Check.STATE, x::restoreSnapshot);
        x.passTicks(3);
        x.saveSnapshot();
        Check.same("62: no change", 1, x.undoableCount());
        Check.same("62: nothing is different", 3, x.tick());
        x.passTicks(4);
        Check.same("63: tick", 3, x.restoreSnapshot());
        Check.same("6: tick", 3, x.tick());
        Check.same("60: the history is cleared", 0, x.undoableCount());
        Check.refuses("61: the history is cleared", Check.STATE, x::undo);
        x.passTicks(5);
        Check.same("63: the snapshot is kept", 3, x.restoreSnapshot());
        x.passTicks(6);
        x.saveSnapshot();
        x.passTicks(7);
        Check.same("62: an earlier one is replaced", 9, x.restoreSnapshot());
        x.passTicks(1);
        x.undo();
        Check.same("61: undo after the snapshot", 9, x.tick());
        x.passTicks(1);
        Check.same("63: it is still as it was", 9, x.restoreSnapshot());
    }

    private static void snapshotKeepsAll() {
        KiteLogger x = Check.station("kite 4 40 100;gusts 10;interval 1;");
        Check.run(x, "out 50;launch;wait 5;in 50;archive;out 50;launch;wait 3;");
        x.saveSnapshot();
        Check.run(x, "every 7;wait 20;search 2200;search 50;archive;bridle 7 7;out 9;");
        int written = x.writeLogger();
        Check.append(x, "out 1;");
        Check.same("63: tick", 8, x.restoreSnapshot());
        Check.same("59: the output stays", 0, written);
        Check.same("57: the input buffer stays", 1, x.runScript(6));
        x.undo();
        Check.same("15: flying", true, x.isFlying());
        Check.same("17: height", 40, x.height());
        Check.same("18: tether", 50, x.tether());
        Check.same("22: wear", 80, x.wear());
        Check.same("20: limit", 40, x.limit());
        Check.same("24: flightTime", 3, x.flightTime());
        Check.same("26: launches", 2, x.launches());
        Check.same("27: snaps", 0, x.snaps());
        Check.same("28: searches", 0, x.searches());
        Check.same("29: interval", 1, x.interval());
        Check.same("30: loggedCount", 3, x.loggedCount());
        Check.same("31: loggedTick", 7, x.loggedTick(2));
        Check.same("35: archivedCount", 5, x.archivedCount());
        Check.same("36: archivedTick", 4, x.archivedTick(4));
        Check.same("10: bufferSize", 3, x.bufferSize());
        Check.same("43: share", 5.0f / 8.0f, x.archivedShare());
        Check.same("44: gap", 0, x.gap());
        // The distance of a fallen kite is kept too.
        x.passTicks(2);
        Check.same("16: fallen", true, x.isFallen());
        x.saveSnapshot();
        x.search(50);
        x.restoreSnapshot();
        Check.same("25: beaconTime", 120, x.beaconTime());
        Check.same("54: found at the same place", 0, x.search(50));
    }
}
