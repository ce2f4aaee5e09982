/** Promises 14 to 28: the kite, its bridle, its beacon and its counts, and what a tick does to them. */
public final class KiteTest {
    private static final String WEARING = "kite 4 40 100;gusts 10;interval 1;";

    public static void main(String[] args) {
        loadOf();
        modes();
        rising();
        sinking();
        sinkingByWind();
        noWearAtTheLimit();
        wearAndSnap();
        beacon();
        wornBridle();
        counts();
        numbersOfTheStation();
        Check.end();
    }

    private static void loadOf() {
        KiteLogger x = new KiteLogger();
        Check.same("23: load 0", 0, x.loadOf(0));
        Check.same("23: load 12", 36, x.loadOf(12));
        Check.same("23: load 13, rounded down", 42, x.loadOf(13));
        Check.same("23: load 36", 324, x.loadOf(36));
        Check.refuses("23: wind -1", Check.ARGUMENT, () -> x.loadOf(-1));
        Check.refuses("23: wind 37", Check.ARGUMENT, () -> x.loadOf(37));
        Check.load(x, "kite 3 1 1;gusts 1;interval 1;");
        Check.same("23: load 5 of area 3", 9, x.loadOf(5));
        Check.load(x, "kite 4 1 1;gusts 1;interval 1;");
        Check.same("23: load 36 of area 4", 648, x.loadOf(36));
    }

    private static void mode(String what, KiteLogger x, boolean landed, boolean flying, boolean fallen) {
        Check.same("14: isLanded " + what, landed, x.isLanded());
        Check.same("15: isFlying " + what, flying, x.isFlying());
        Check.same("16: isFallen " + what, fallen, x.isFallen());
    }

    private static void modes() {
        KiteLogger x = Check.station(WEARING);
        mode("at first", x, true, false, false);
        Check.run(x, "out 50;launch;");
        mode("after the launch", x, false, true, false);
        x.passTicks(9);
        mode("before the snap", x, false, true, false);
        x.passTicks(1);
        mode("after the snap", x, false, false, true);
        x.search(50);
        mode("when it is found", x, true, false, false);
    }

    private static void rising() {
        KiteLogger x = Check.station("kite 1 999 9999;gusts 5 30;interval 1;");
        x.payOut(120);
        Check.same("18: tether", 120, x.tether());
        x.launch();
        Check.same("17: after the launch", 10, x.height());
        int[] heights = {15, 45, 50, 80, 85, 115, 120, 120};
        for (int i = 0; i < heights.length; i++) {
            x.passTicks(1);
            Check.same("17: height after " + (i + 1), heights[i], x.height());
            Check.same("24: flightTime after " + (i + 1), i + 1, x.flightTime());
        }
        x.payOut(3);
        x.passTicks(1);
        Check.same("17: up to the longer tether", 123, x.height());
        x.reelIn(23);
        Check.same("17: down to the shorter tether", 100, x.height());
        Check.same("18: the shorter tether", 100, x.tether());
    }

    private static void sinking() {
        KiteLogger x = Check.station("kite 1 999 9999;gusts 5 0;interval 1;");
        x.payOut(100);
        x.launch();
        for (int i = 1; i <= 19; i++) {
            x.passTicks(1);
            Check.same("17: height after " + i, i % 2 == 0 ? 10 - i / 2 : 15 - i / 2, x.height());
        }
        mode("before the landing", x, false, true, false);
        Check.same("30: samples before the landing", 19, x.loggedCount());
        x.passTicks(1);
        Check.same("17: height 0", 0, x.height());
        mode("after the landing", x, true, false, false);
        Check.same("24: flightTime after the landing", 0, x.flightTime());
        Check.same("18: the tether stays out", 100, x.tether());
        Check.same("30: no sample in the landing's tick", 19, x.loggedCount());
        x.passTicks(5);
        Check.same("17: it stays on the ground", 0, x.height());
        Check.same("24: flightTime on the ground", 0, x.flightTime());
        Check.same("24: launches", 1, x.launches());
    }

    private static void sinkingByWind() {
        KiteLogger x = Check.station("kite 1 999 9999;gusts 30 4 3 2 1 0;interval 1;");
        x.payOut(100);
        x.launch();
        int[] heights = {40, 38, 35, 31, 26, 20};
        for (int i = 0; i < heights.length; i++) {
            x.passTicks(1);
            Check.same("17: height after " + (i + 1), heights[i], x.height());
        }
        // At 100 meters the wind of a gust of 4 is 5, which lifts.
        KiteLogger y = Check.station("kite 1 999 9999;gusts 30 30 30 30 4;interval 1;");
        Check.run(y, "out 200;launch;wait 4;");
        Check.same("17: height before the weak gust", 131, y.height());
        y.passTicks(1);
        Check.same("17: height after the weak gust", 136, y.height());
        // A fall below the ground ends on it.
        KiteLogger z = Check.station("kite 1 999 9999;gusts 5 0 0 0;interval 1;");
        Check.run(z, "out 10;launch;wait 2;");
        Check.same("17: height 4", 4, z.height());
        z.passTicks(1);
        Check.same("17: not below 0", 0, z.height());
        mode("after 4 - 6", z, true, false, false);
    }

    private static void noWearAtTheLimit() {
        KiteLogger x = Check.station("kite 4 50 1;gusts 10;interval 1;");
        Check.run(x, "out 99;launch;wait 20;");
        Check.same("22: a load of just the limit", 0, x.wear());
        Check.same("20: limit", 50, x.limit());
        x.payOut(1);
        x.passTicks(1);
        Check.same("22: no wear while the wind is still that of 99 meters", 0, x.wear());
        x.passTicks(1);
        // At 100 meters the wind is 11 and the load 60.
        Check.same("22: wear", 10, x.wear());
        mode("with endurance 1", x, false, false, true);
    }

    private static void wearAndSnap() {
        KiteLogger x = Check.station(WEARING);
        Check.run(x, "out 50;launch;");
        for (int i = 1; i <= 9; i++) {
            x.passTicks(1);
            Check.same("22: wear after " + i, 10 * i, x.wear());
        }
        Check.same("25: no beacon in the air", 0, x.beaconTime());
        Check.same("27: no snap", 0, x.snaps());
        x.passTicks(1);
        Check.same("22: wear of just the endurance", 100, x.wear());
        Check.same("17: height of the fallen kite", 0, x.height());
        Check.same("18: tether of the fallen kite", 0, x.tether());
        Check.same("24: flightTime of the fallen kite", 0, x.flightTime());
        Check.same("27: one snap", 1, x.snaps());
        Check.same("10: the wind of the snap is in the buffer", 8, x.bufferSize());
        Check.same("30: no sample in the snap's tick", 9, x.loggedCount());
        Check.same("6: the tick has passed", 10, x.tick());
    }

    private static void beacon() {
        KiteLogger x = Check.station(WEARING);
        Check.run(x, "out 50;launch;wait 10;");
        Check.same("25: not in the snap's tick", 120, x.beaconTime());
        x.passTicks(1);
        Check.same("25: after 1 tick", 119, x.beaconTime());
        Check.run(x, "wait 59;wait 59;");
        Check.same("25: after 119 ticks", 1, x.beaconTime());
        x.passTicks(1);
        Check.same("25: after 120 ticks", 0, x.beaconTime());
        x.passTicks(1);
        Check.same("25: not less than 0", 0, x.beaconTime());
        mode("with a silent beacon", x, false, false, true);
        KiteLogger y = Check.station(WEARING);
        Check.run(y, "out 50;launch;wait 15;search 50;");
        Check.same("25: of the kite that was found", 0, y.beaconTime());
    }

    private static void wornBridle() {
        KiteLogger x = Check.station("kite 4 40 25;gusts 10 10 10 5;interval 1;");
        Check.run(x, "out 50;launch;wait 3;search 30;out 10;");
        mode("when it is found", x, true, false, false);
        Check.same("22: the bridle is still worn", 30, x.wear());
        Check.same("6: a calm tick", 5, x.windAt(0));
        x.launch();
        x.passTicks(1);
        Check.same("22: the wear has not increased", 30, x.wear());
        mode("the worn bridle snaps", x, false, false, true);
        Check.same("27: second snap", 2, x.snaps());
        Check.same("54: its distance is 5 * 10 / 10", 0, x.search(5 + 20));
    }

    private static void counts() {
        KiteLogger x = Check.station(WEARING);
        for (int i = 1; i <= 3; i++) {
            Check.run(x, "bridle 40 10;out 10;launch;wait 1;search 2200;search 10;");
            Check.same("26: launches", i, x.launches());
            Check.same("27: snaps", i, x.snaps());
            Check.same("28: searches", 2 * i, x.searches());
        }
    }

    private static void numbersOfTheStation() {
        KiteLogger x = Check.station("kite 3 17 1234;gusts 10;interval 1;");
        Check.same("19: area", 3, x.area());
        Check.same("20: limit", 17, x.limit());
        Check.same("21: endurance", 1234, x.endurance());
        x.replaceBridle(999, 9999);
        Check.same("19: area", 3, x.area());
        Check.same("20: limit", 999, x.limit());
        Check.same("21: endurance", 9999, x.endurance());
        Check.run(x, "out 200;out 200;out 200;launch;wait 60;");
        Check.same("17: greatest height", 600, x.height());
        Check.same("18: greatest tether", 600, x.tether());
    }
}
