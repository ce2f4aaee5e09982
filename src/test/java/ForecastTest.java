/** Promises 45 to 48: reasons and forecasts, which change nothing. */
public final class ForecastTest {
    public static void main(String[] args) {
        launchObstacle();
        launchObstacleOrder();
        heightAfter();
        heightAfterSnapAndLanding();
        ticksToSnap();
        ticksToSnapBounds();
        forecastsOfAPattern();
        lastTicks();
        safeHeight();
        nothingChanges();
        Check.end();
    }

    private static void launchObstacle() {
        KiteLogger x = Check.station("kite 4 50 50;gusts 5 4 10;interval 1;");
        x.payOut(9);
        Check.same("45: 9 meters", 3, x.launchObstacle());
        x.payOut(1);
        Check.same("45: 10 meters and a wind of 5", 0, x.launchObstacle());
        x.passTicks(1);
        Check.same("45: a wind of 4", 4, x.launchObstacle());
        Check.run(x, "wait 1;launch;");
        Check.same("45: flying", 1, x.launchObstacle());
        Check.run(x, "out 190;wait 60;");
        Check.same("16: fallen", true, x.isFallen());
        Check.same("45: fallen", 2, x.launchObstacle());
    }

    private static void launchObstacleOrder() {
        KiteLogger x = Check.station("kite 1 999 9999;gusts 9 0;interval 1;");
        x.passTicks(1);
        Check.same("45: no tether comes before no wind", 3, x.launchObstacle());
        Check.run(x, "wait 1;out 20;launch;wait 1;in 15;");
        Check.same("15: flying", true, x.isFlying());
        Check.same("18: with 5 meters", 5, x.tether());
        Check.same("45: flying comes first", 1, x.launchObstacle());
    }

    private static void heightAfter() {
        KiteLogger x = Check.station("kite 1 999 9999;gusts 30;interval 1;");
        Check.same("46: on the ground", 0, x.heightAfter(100));
        Check.run(x, "out 200;out 200;out 200;launch;");
        Check.same("46: now", 10, x.heightAfter(0));
        Check.same("46: after 1", 40, x.heightAfter(1));
        Check.same("46: after 4", 131, x.heightAfter(4));
        Check.same("46: after 100", 600, x.heightAfter(100));
        Check.refuses("46: -1", Check.ARGUMENT, () -> x.heightAfter(-1));
        Check.refuses("46: 101", Check.ARGUMENT, () -> x.heightAfter(101));
        Check.refuses("46: greatest number", Check.ARGUMENT, () -> x.heightAfter(Integer.MAX_VALUE));
    }

    private static void heightAfterSnapAndLanding() {
        KiteLogger x = Check.station("kite 4 40 100;gusts 10;interval 1;");
        Check.run(x, "out 50;launch;");
        Check.same("46: before the snap", 50, x.heightAfter(9));
        Check.same("46: after the snap", 0, x.heightAfter(10));
        KiteLogger y = Check.station("kite 1 999 9999;gusts 5 0;interval 1;");
        Check.run(y, "out 50;launch;");
        Check.same("46: before the landing", 6, y.heightAfter(19));
        Check.same("46: after the landing", 0, y.heightAfter(20));
        Check.same("46: a landed kite does not rise", 0, y.heightAfter(21));
    }

    private static void ticksToSnap() {
        KiteLogger x = Check.station("kite 4 40 100;gusts 10;interval 1;");
        Check.same("47: landed", -1, x.ticksToSnap());
        Check.run(x, "out 50;launch;");
        Check.same("47: 10 ticks", 10, x.ticksToSnap());
        x.passTicks(9);
        Check.same("47: the next tick", 1, x.ticksToSnap());
        x.passTicks(1);
        Check.same("47: fallen", -1, x.ticksToSnap());
        KiteLogger y = Check.station("kite 1 1 9999;gusts 5 0;interval 1;");
        Check.run(y, "out 50;launch;");
        Check.same("47: it lands before", -1, y.ticksToSnap());
    }

    private static void ticksToSnapBounds() {
        // The wear grows by 1 a tick.
        KiteLogger x = Check.station("kite 4 49 200;gusts 10;interval 1;");
        Check.run(x, "out 50;launch;");
        Check.same("47: in 200 ticks", 200, x.ticksToSnap());
        KiteLogger y = Check.station("kite 4 49 201;gusts 10;interval 1;");
        Check.run(y, "out 50;launch;");
        Check.same("47: in 201 ticks", -1, y.ticksToSnap());
        y.passTicks(1);
        Check.same("47: in 200 ticks", 200, y.ticksToSnap());
        Check.same("46: 100 ticks are no snap yet", 50, y.heightAfter(100));
    }

    private static void forecastsOfAPattern() {
        KiteLogger x = Check.station("kite 1 20 60;gusts 7 30 5 0 14 9;interval 1;");
        Check.run(x, "wait 2;out 200;launch;");
        // Winds 5 0 14 9 7 30: the loads 24 and 112 are above 20.
        int[] heights = {10, 15, 9, 23, 32, 39, 0};
        for (int i = 0; i < heights.length; i++) {
            Check.same("46: after " + i, heights[i], x.heightAfter(i));
        }
        Check.same("47: the gust of 30 tears it", 6, x.ticksToSnap());
        x.passTicks(4);
        Check.same("46: later", 39, x.heightAfter(1));
        Check.same("47: later", 2, x.ticksToSnap());
        x.passTicks(2);
        Check.same("16: it is torn", true, x.isFallen());
    }

    private static void passTo(KiteLogger x, int tick) {
        for (int rest = tick - x.tick(); rest > 0; rest = tick - x.tick()) {
            x.passTicks(Math.min(rest, 60));
        }
    }

    private static void lastTicks() {
        KiteLogger x = Check.station("kite 4 40 50;gusts 10;interval 1;");
        passTo(x, 9995);
        Check.run(x, "out 200;launch;");
        Check.same("47: in the last tick", 5, x.ticksToSnap());
        Check.same("46: in the last tick", 0, x.heightAfter(5));
        Check.same("46: beyond the last tick", 0, x.heightAfter(100));
        KiteLogger y = Check.station("kite 4 40 60;gusts 10;interval 1;");
        passTo(y, 9995);
        Check.run(y, "out 200;launch;");
        Check.same("47: beyond the last tick", -1, y.ticksToSnap());
        Check.same("46: after the last tick", 60, y.heightAfter(5));
        Check.same("46: no tick passes beyond it", 60, y.heightAfter(6));
        Check.same("46: no tick passes beyond it", 60, y.heightAfter(100));
        y.passTicks(5);
        Check.same("17: height", 60, y.height());
        Check.same("46: at tick 10000", 60, y.heightAfter(50));
        Check.same("47: at tick 10000", -1, y.ticksToSnap());
        Check.run(y, "in 200;out 20;");
        Check.same("45: at tick 10000", 0, y.launchObstacle());
        Check.same("49: at tick 10000", 2, y.launch());
    }

    private static void safe(int due, String text) {
        Check.same("48: " + text, due, Check.station(text).safeHeight());
    }

    private static void safeHeight() {
        safe(399, "kite 1 1 100;gusts 0 0;interval 3;");
        safe(99, "kite 2 40 100;gusts 6 9 12 4 0 8;interval 3;");
        safe(99, "kite 2 36 100;gusts 12;interval 3;");
        safe(-1, "kite 2 35 100;gusts 1 12 2;interval 3;");
        safe(199, "kite 2 42 100;gusts 12;interval 3;");
        safe(599, "kite 2 80 100;gusts 12;interval 3;");
        safe(600, "kite 2 81 100;gusts 12;interval 3;");
        safe(600, "kite 4 648 100;gusts 0 30;interval 3;");
        safe(599, "kite 4 647 100;gusts 30 0;interval 3;");
        safe(499, "kite 4 12 100;gusts 0 0 1;interval 3;");
        KiteLogger x = new KiteLogger();
        x.replaceBridle(999, 1);
        Check.same("48: with another bridle", 600, x.safeHeight());
    }

    private static void nothingChanges() {
        KiteLogger x = Check.station("kite 4 40 100;gusts 10;interval 1;");
        Check.run(x, "out 50;launch;wait 3;");
        x.heightAfter(50);
        x.ticksToSnap();
        x.safeHeight();
        x.launchObstacle();
        Check.same("46: tick", 3, x.tick());
        Check.same("46: height", 40, x.height());
        Check.same("46: wear", 30, x.wear());
        Check.same("46: bufferSize", 3, x.bufferSize());
        Check.same("46: loggedCount", 3, x.loggedCount());
        Check.same("46: snaps", 0, x.snaps());
        Check.same("46: undoableCount", 1, x.undoableCount());
        Check.same("46: flightTime", 3, x.flightTime());
    }
}
