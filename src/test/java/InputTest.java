/** Promises 1 to 5: a new object, the input buffer, stations and parse errors. */
public final class InputTest {
    private static final String PLAIN = "kite 1 2 3;gusts 4;interval 5;";

    public static void main(String[] args) {
        newObject();
        newObjectHasNothing();
        appendText();
        appendTextTakesEveryByte();
        loadStation();
        loadStationRefuses();
        loadStationForgets();
        loadStationInTheAir();
        loadStationWithError();
        readableStations();
        stationErrors();
        seventeenthGust();
        hugeNumbers();
        scriptErrors();
        scriptLimits();
        errorOfTheLatestCall();
        Check.end();
    }

    private static void newObject() {
        KiteLogger x = new KiteLogger();
        Check.same("1: tick", 0, x.tick());
        Check.same("1: area", 2, x.area());
        Check.same("1: limit", 40, x.limit());
        Check.same("1: endurance", 100, x.endurance());
        Check.same("1: interval", 3, x.interval());
        Check.same("1: patternLength", 6, x.patternLength());
        int[] gusts = {6, 9, 12, 4, 0, 8};
        for (int i = 0; i < 18; i++) {
            Check.same("1: gust " + i, gusts[i % 6], x.gust(i));
        }
        Check.same("1: isLanded", true, x.isLanded());
        Check.same("1: isFlying", false, x.isFlying());
        Check.same("1: isFallen", false, x.isFallen());
        Check.same("1: height", 0, x.height());
        Check.same("1: tether", 0, x.tether());
        Check.same("1: wear", 0, x.wear());
    }

    private static void newObjectHasNothing() {
        KiteLogger x = new KiteLogger();
        Check.same("1: bufferSize", 0, x.bufferSize());
        Check.same("1: loggedCount", 0, x.loggedCount());
        Check.same("1: archivedCount", 0, x.archivedCount());
        Check.same("1: counts", 0, x.launches() + x.snaps() + x.searches() + x.droppedCount() + x.beaconTime());
        Check.same("1: undoableCount", 0, x.undoableCount());
        Check.same("1: errorCode", 0, x.errorCode());
        Check.same("1: errorOffset", -1, x.errorOffset());
        Check.refuses("1: undo", Check.STATE, x::undo);
        Check.refuses("1: restoreSnapshot", Check.STATE, x::restoreSnapshot);
        Check.refuses("1: outputByte", Check.INDEX, () -> x.outputByte(0));
        Check.refuses("1: loadStation(1)", Check.ARGUMENT, () -> x.loadStation(1));
        Check.same("1: the input buffer is empty", 20, x.appendText(0, 0, 0, 0, 0));
    }

    private static void appendText() {
        KiteLogger x = new KiteLogger();
        for (int i = 1; i <= 25; i++) {
            Check.same("2: append " + i, 20 * i, x.appendText(0x20202020, 0x20202020, 0x20202020, 0x20202020, 0x20202020));
        }
        Check.same("2: append 26", -1, x.appendText(0x6b697465, 0, 0, 0, 0));
        Check.refuses("2: nothing was appended", Check.ARGUMENT, () -> x.loadStation(501));
        Check.same("2: 500 bytes are there", 0, x.runScript(500));
        Check.same("2: after the buffer was emptied", 20, x.appendText(0, 0, 0, 0, 0));
    }

    private static void appendTextTakesEveryByte() {
        // Each of the 20 places holds the wrong sign once, and the error must stand right there.
        for (int place = 0; place < 20; place++) {
            int[] words = {0x20202020, 0x20202020, 0x20202020, 0x20202020, 0x20202020};
            words[place / 4] ^= 0xdf << (24 - 8 * (place % 4));
            KiteLogger x = new KiteLogger();
            x.appendText(words[0], words[1], words[2], words[3], words[4]);
            Check.same("2: script with byte 255", -1, x.runScript(20));
            Check.same("2: place of byte 255", place, x.errorOffset());
        }
        KiteLogger y = new KiteLogger();
        Check.same("2: two parts", 20, y.appendText(0x6b697465, 0x20322034, 0x30203130, 0x303b6775, 0x73747320));
        Check.same("2: two parts", 40, y.appendText(0x3120323b, 0x696e7465, 0x7276616c, 0x20373b20, 0x20202020));
        Check.same("2: kite 2 40 100;gusts 1 2;interval 7;", 2, y.loadStation(40));
        Check.same("2: interval", 7, y.interval());
    }

    private static void loadStation() {
        KiteLogger x = new KiteLogger();
        Check.same("3: one gust", 1, Check.load(x, PLAIN));
        Check.same("3: area", 1, x.area());
        Check.same("3: limit", 2, x.limit());
        Check.same("3: endurance", 3, x.endurance());
        Check.same("3: gust", 4, x.gust(77));
        Check.same("3: interval", 5, x.interval());
        Check.same("3: 16 gusts", 16, Check.load(x, "kite 4 999 9999;gusts 0 1 2 3 4 5 6 7 8 9 10 11 12 13 14 30;interval 20;"));
        Check.same("3: area", 4, x.area());
        Check.same("3: limit", 999, x.limit());
        Check.same("3: endurance", 9999, x.endurance());
        Check.same("3: gust 15", 30, x.gust(15));
        Check.same("3: gust 16", 0, x.gust(16));
        Check.same("3: fewer gusts", 2, Check.load(x, "kite 1 1 1;gusts 7 8;interval 1;"));
        Check.same("3: gust 2", 7, x.gust(2));
    }

    private static void loadStationRefuses() {
        KiteLogger x = new KiteLogger();
        Check.refuses("3: negative length", Check.ARGUMENT, () -> x.loadStation(-1));
        Check.refuses("3: least length", Check.ARGUMENT, () -> x.loadStation(Integer.MIN_VALUE));
        int length = Check.append(x, PLAIN);
        Check.refuses("3: length above the buffer", Check.ARGUMENT, () -> x.loadStation(41));
        Check.refuses("3: greatest length", Check.ARGUMENT, () -> x.loadStation(Integer.MAX_VALUE));
        Check.same("3: the buffer is still there", 1, x.loadStation(length));
        Check.same("3: the buffer is emptied", 20, x.appendText(1, 1, 1, 1, 1));
    }

    private static void loadStationForgets() {
        KiteLogger x = Check.station("kite 4 40 100;gusts 10;interval 1;");
        Check.run(x, "out 50;launch;wait 5;in 200;archive;out 50;launch;wait 3;in 200;out 50;launch;wait 2;");
        Check.same("3: before, the kite is fallen", true, x.isFallen());
        Check.same("3: before, there are samples", 9, x.archivedCount() + x.loggedCount());
        x.search(2200);
        Check.same("3: before, the beacon lasts", 120, x.beaconTime());
        x.saveSnapshot();
        int written = x.writeLogger();
        Check.load(x, PLAIN);
        Check.same("3: tick", 0, x.tick());
        Check.same("3: isLanded", true, x.isLanded());
        Check.same("3: wear", 0, x.wear());
        Check.same("3: tether", 0, x.tether());
        Check.same("3: beaconTime", 0, x.beaconTime());
        Check.same("3: counts", 0, x.launches() + x.snaps() + x.searches() + x.droppedCount());
        Check.same("3: samples", 0, x.loggedCount() + x.archivedCount() + x.bufferSize());
        Check.same("3: share", 0.0f, x.archivedShare());
        Check.same("3: gap", 0, x.gap());
        Check.same("3: undoableCount", 0, x.undoableCount());
        Check.refuses("3: undo", Check.STATE, x::undo);
        Check.refuses("3: the snapshot is discarded", Check.STATE, x::restoreSnapshot);
        Check.same("59: the output stays", "5@20,10 6@30,10 7@40,10 8@20,10", Check.output(x, written));
    }

    private static void loadStationInTheAir() {
        KiteLogger x = Check.station("kite 1 999 9999;gusts 10;interval 1;");
        Check.run(x, "out 50;launch;wait 33;");
        Check.same("3: before, samples are dropped", 3, x.droppedCount());
        Check.load(x, PLAIN);
        Check.same("3: isLanded", true, x.isLanded());
        Check.same("3: height", 0, x.height());
        Check.same("3: tether", 0, x.tether());
        Check.same("3: flightTime", 0, x.flightTime());
        Check.same("3: droppedCount", 0, x.droppedCount());
        Check.same("3: launches", 0, x.launches());
        Check.same("3: bufferedWind", -1, x.bufferedWind(0));
        x.passTicks(5);
        Check.same("3: the new kite stays on the ground", 0, x.height() + x.loggedCount() + x.bufferSize());
    }

    private static void loadStationWithError() {
        KiteLogger x = new KiteLogger();
        x.payOut(30);
        x.saveSnapshot();
        Check.same("3: error", -1, Check.load(x, "kite 1 2 3;gusts 4;interval 0;"));
        Check.same("3: area stays", 2, x.area());
        Check.same("3: limit stays", 40, x.limit());
        Check.same("3: endurance stays", 100, x.endurance());
        Check.same("3: gusts stay", 6, x.patternLength());
        Check.same("3: gust stays", 6, x.gust(0));
        Check.same("3: tether stays", 30, x.tether());
        Check.same("3: history stays", 1, x.undoableCount());
        Check.same("3: snapshot stays", 0, x.restoreSnapshot());
        Check.same("3: the buffer is emptied", 20, x.appendText(1, 1, 1, 1, 1));
        Check.same("3: no text", -1, x.loadStation(0));
        Check.same("3: the rest of the buffer is emptied", 20, x.appendText(1, 1, 1, 1, 1));
    }

    private static void station(String text, int code, int offset) {
        KiteLogger x = new KiteLogger();
        Check.run(x, "wrong");
        int answer = Check.load(x, text);
        Check.same("3: fails or not: " + text, code == 0, answer > 0);
        Check.same("4: code of " + text, code, x.errorCode());
        Check.same("5: offset of " + text, offset, x.errorOffset());
    }

    private static void script(String text, int code, int offset) {
        KiteLogger x = new KiteLogger();
        Check.load(x, "wrong");
        int answer = Check.run(x, text);
        Check.same("57: fails or not: " + text, code == 0, answer >= 0);
        Check.same("4: code of " + text, code, x.errorCode());
        Check.same("5: offset of " + text, offset, x.errorOffset());
    }

    private static void readableStations() {
        station(PLAIN, 0, -1);
        station("kite1 1 1;gusts0 30;interval20;", 0, -1);
        station(" \n kite\n4 999 9999 ; gusts 0 ; interval 1 ; \n ", 0, -1);
        station("kite 0001 00000000000000000000000000000002 3;gusts 00;interval 05;", 0, -1);
    }

    private static void stationErrors() {
        station("", 1, 0);
        station("   ", 1, 3);
        station("kit 2 40 100;", 1, 0);
        station("kitee 2 40 100;", 1, 0);
        station("Kite 2 40 100;", 1, 0);
        station("xite 2 40 100;", 1, 0);
        station("kitez 2 40 100;", 1, 0);
        station("akite 2 40 100;", 1, 0);
        station("kite`", 1, 4);
        station("kite{", 1, 4);
        station("kite 1/1 1;", 1, 6);
        station("kite 1:1 1;", 1, 6);
        station("\tkite 2", 1, 0);
        station("kite\t2", 1, 4);
        station("kite\r2", 1, 4);
        station("kite", 1, 4);
        station("kite;", 1, 4);
        station("kite -1", 1, 5);
        station("kite \u00ff", 1, 5);
        station("kite 0", 2, 5);
        station("kite 5", 2, 5);
        station("kite 4", 1, 6);
        station("kite 4 ", 1, 7);
        station("kite 4 0", 2, 7);
        station("kite 4 1000", 2, 7);
        station("kite 4 999", 1, 10);
        station("kite 4 9 0", 2, 9);
        station("kite 4 9 10000", 2, 9);
        station("kite 4 9 9999", 1, 13);
        station("kite 4 9 9 9;", 1, 11);
        station("kite 4 9 9 gusts", 1, 11);
        station("kite 1 1 1;gust 1;", 1, 11);
        station("kite 1 1 1;interval 1;", 1, 11);
        station("kite 1 1 1;gusts 1;", 1, 19);
        station("kite 1 1 1;gusts 1;wait 1;", 1, 19);
        station("kite 1 1 1;gusts ;", 1, 17);
        station("kite 1 1 1;gusts 31;", 2, 17);
        station("kite 1 1 1;gusts 30 31;", 2, 20);
        station("kite 1 1 1;gusts 30 x;", 1, 20);
        station("kite 1 1 1;gusts 1", 1, 18);
        station("kite 1 1 1;gusts 1;interval;", 1, 27);
        station("kite 1 1 1;gusts 1;interval 0;", 2, 28);
        station("kite 1 1 1;gusts 1;interval 21;", 2, 28);
        station("kite 1 1 1;gusts 1;interval 20", 1, 30);
        station("kite 1 1 1;gusts 1;interval 20)", 1, 30);
        station("kite 1 1 1;gusts 1;interval 20;;", 1, 31);
        station("kite 1 1 1;gusts 1;interval 20; kite", 1, 32);
    }

    private static void seventeenthGust() {
        String sixteen = "kite 1 1 1;gusts 1 1 1 1 1 1 1 1 1 1 1 1 1 1 1 1";
        station(sixteen + ";interval 1;", 0, -1);
        station(sixteen + " 1;interval 1;", 3, 49);
        station(sixteen + " 30;interval 1;", 3, 49);
        station(sixteen + " 31;interval 1;", 2, 49);
        station(sixteen + " x;interval 1;", 1, 49);
        station(sixteen, 1, 48);
    }

    private static void hugeNumbers() {
        station("kite 99999999999999999999999999999999999999", 2, 5);
        station("kite 4294967297 1 1;gusts 1;interval 1;", 2, 5);
        station("kite 18446744073709551617 1 1;gusts 1;interval 1;", 2, 5);
        script("wait 4294967297;", 2, 5);
        script("wait " + "9".repeat(490) + ";", 2, 5);
        script("wait " + "0".repeat(490) + "1;", 0, -1);
    }

    private static void scriptErrors() {
        script("", 0, -1);
        script(" \n", 0, -1);
        script(";", 1, 0);
        script(")", 1, 0);
        script("7;", 1, 0);
        script("launch;", 0, -1);
        script("launch ;\narchive\n;", 0, -1);
        script("launch", 1, 6);
        script("Launch;", 1, 0);
        script("launched;", 1, 0);
        script("launc;", 1, 0);
        script("fly;", 1, 0);
        script("launch launch;", 1, 7);
        script("launch;)", 1, 7);
        script("launch 1;", 1, 7);
        script("archive;A", 1, 8);
        script("out;", 1, 3);
        script("out 0;", 2, 4);
        script("out 201;", 2, 4);
        script("out1;in200;", 0, -1);
        script("in 0;", 2, 3);
        script("in 201;", 2, 3);
        script("bridle 0 1;", 2, 7);
        script("bridle 1000 1;", 2, 7);
        script("bridle 1 0;", 2, 9);
        script("bridle 1 10000;", 2, 9);
        script("bridle 1;", 1, 8);
        script("bridle 999 9999;bridle 1 1;", 0, -1);
        script("every 0;", 2, 6);
        script("every 21;", 2, 6);
        script("every 20;every 1;", 0, -1);
        script("search 2201;", 2, 7);
        script("search 2200;search 0;", 0, -1);
        script("wait 0;", 2, 5);
        script("wait 61;", 2, 5);
        script("wait 60;wait 1;", 0, -1);
        script("wait 1\t;", 1, 6);
        script("wait 1 2;", 1, 7);
    }

    private static void scriptLimits() {
        script("repeat 1 ();", 2, 7);
        script("repeat 6 ();", 2, 7);
        script("repeat 2();repeat 5 ( ) ;", 0, -1);
        script("repeat 2;", 1, 8);
        script("repeat 2);", 1, 8);
        script("repeat 2[", 1, 8);
        script("repeat 2((", 1, 9);
        script("repeat 2(wait 1;(", 1, 16);
        script("repeat 2(wait 1;[", 1, 16);
        script("repeat 2(wait 1;7", 1, 16);
        script("repeat (", 1, 7);
        script("repeat 2 (;);", 1, 10);
        script("repeat 2 ()", 1, 11);
        script("repeat 2 (wait 1)", 1, 16);
        script("repeat 2 (wait 1;", 1, 17);
        script("repeat 2 (wait 1;;", 1, 17);
        script("repeat 2(repeat 3(wait 1;);wait 1;);", 0, -1);
        script("repeat 2(repeat 2(););repeat 2(repeat 2(););", 0, -1);
        script("repeat 2(repeat 2(repeat 2(););)", 3, 18);
        script("repeat 2(repeat 2(wait 1;repeat", 3, 25);
        script("repeat 2(repeat 2(repeats", 1, 18);
        String twenty = "archive;".repeat(20);
        script(twenty, 0, -1);
        script(twenty + "archive;", 3, 160);
        script(twenty + "\nrepeat", 3, 161);
        script(twenty + "fly;", 1, 160);
        script(twenty + "7;", 1, 160);
        script("repeat 2(" + "wait 1;".repeat(19) + ");", 0, -1);
        script("repeat 2(" + "wait 1;".repeat(20) + ");", 3, 142);
        script("repeat 2(" + "wait 1;".repeat(18) + ");wait 1;", 0, -1);
        script("repeat 2(" + "wait 1;".repeat(19) + ");wait 1;", 3, 144);
        script("repeat 2(repeat 2(" + "wait 1;".repeat(18) + "repeat", 3, 144);
    }

    private static void errorOfTheLatestCall() {
        KiteLogger x = new KiteLogger();
        Check.load(x, "kite 9");
        Check.refuses("4: a call that throws", Check.ARGUMENT, () -> x.loadStation(1));
        Check.refuses("4: a call that throws", Check.ARGUMENT, () -> x.runScript(-1));
        Check.same("4: the code stays when a call throws", 2, x.errorCode());
        Check.same("5: the offset stays when a call throws", 5, x.errorOffset());
        x.payOut(10);
        x.undo();
        Check.same("4: the code stays after other calls", 2, x.errorCode());
        Check.same("5: the offset stays after other calls", 5, x.errorOffset());
        Check.run(x, "launch;");
        Check.same("4: the code of a good script", 0, x.errorCode());
        Check.same("5: the offset of a good script", -1, x.errorOffset());
        Check.append(x, "launch;");
        Check.same("5: a text may end before the buffer does", -1, x.runScript(6));
        Check.same("5: offset of the text's end", 6, x.errorOffset());
    }
}
