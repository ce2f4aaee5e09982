/**
 * The boundary cases of wind, kite, samples and changes ("Terms" and promises 6 to 63), one method for each sentence:
 * the least and the greatest value, what stands beside them, and what is empty, full or begins again.
 */
public final class StationEdgeTest {
    private static final String STRONG = "kite 1 999 9999;gusts 10;interval 1;";

    public static void main(String[] args) {
        patternRepeats();
        patternAtTick10000();
        windRoundedDown();
        loadRoundedDown();
        bufferFills();
        bufferOfEachTick();
        loggerFills();
        archiveFills();
        loadBesideTheLimit();
        wearBesideTheEndurance();
        wearBeyondTheEndurance();
        distanceRoundedDown();
        beaconOfEachTick();
        heightBesideTheTether();
        heightBesideTheGround();
        windBesideFive();
        landingOfTheKite();
        intervals();
        intervalCountsFromTheLaunch();
        launchAtItsLimits();
        tetherAtItsLimits();
        reelInAtItsLimits();
        searchAtItsLimits();
        archivedQuestionsAtTheirLimits();
        layersAtTheirLimits();
        forecastAtItsLimits();
        forecastOnTheGround();
        snapForecastAtItsLimits();
        firstAndLastTick();
        changesWithoutADifference();
        eightChanges();
        undoOfThePlace();
        snapshotAtItsLimits();
        scriptStopsAtEachCommand();
        outputAtItsLimits();
        Check.end();
    }

    private static KiteLogger flight(String station, String script) {
        KiteLogger x = Check.station(station);
        Check.run(x, script);
        return x;
    }

    private static void passTo(KiteLogger x, int tick) {
        for (int rest = tick - x.tick(); rest > 0; rest = tick - x.tick()) {
            x.passTicks(Math.min(rest, 60));
        }
    }

    // ---- wind

    /** "the remainder of t divided by the length of the pattern": 1 to 16 gusts, each one over and over. */
    private static void patternRepeats() {
        for (int length = 1; length <= 16; length++) {
            StringBuilder gusts = new StringBuilder();
            for (int i = 0; i < length; i++) {
                gusts.append(" ").append(30 - i);
            }
            KiteLogger x = Check.station("kite 1 1 1;gusts" + gusts + ";interval 1;");
            Check.same("7: patternLength", length, x.patternLength());
            for (int tick : new int[] {0, 1, length - 1, length, length + 1, 16, 17, 5000, 9998, 9999}) {
                Check.same("8: gust " + tick + " of " + length, 30 - tick % length, x.gust(tick));
            }
            for (int tick = 0; tick < 2 * length + 1; tick++) {
                Check.same("9: wind of tick " + tick + " of " + length, 30 - tick % length, x.windAt(0));
                x.passTicks(1);
            }
        }
    }

    /** "Returns the wind of the present tick at a height, by the pattern also for tick 10000." */
    private static void patternAtTick10000() {
        for (int length : new int[] {1, 3, 7, 16}) {
            StringBuilder gusts = new StringBuilder();
            for (int i = 0; i < length; i++) {
                gusts.append(" ").append(20 + i % 10);
            }
            KiteLogger x = Check.station("kite 1 1 1;gusts" + gusts + ";interval 1;");
            passTo(x, 9999);
            Check.same("9: tick 9999 of " + length, 20 + 9999 % length % 10, x.windAt(0));
            x.passTicks(1);
            Check.same("6: tick 10000", 10000, x.tick());
            Check.same("9: tick 10000 of " + length, 20 + 10000 % length % 10, x.windAt(0));
            Check.same("9: tick 10000 of " + length + " at 600", 26 + 10000 % length % 10, x.windAt(600));
            Check.refuses("8: there is no tick 10000", Check.ARGUMENT, () -> x.gust(10000));
        }
    }

    /** "the height divided by 100, rounded down". */
    private static void windRoundedDown() {
        KiteLogger x = Check.station("kite 1 1 1;gusts 0;interval 1;");
        for (int height = 0; height <= 600; height++) {
            Check.same("9: wind at " + height, (int) Math.floor(height / 100.0), x.windAt(height));
        }
    }

    /** "the area times the wind times the wind, divided by 8 and rounded down". */
    private static void loadRoundedDown() {
        for (int area = 1; area <= 4; area++) {
            KiteLogger x = Check.station("kite " + area + " 1 1;gusts 0;interval 1;");
            for (int wind = 0; wind <= 36; wind++) {
                Check.same("23: load of " + wind + ", area " + area, (int) Math.floor(area * wind * wind / 8.0), x.loadOf(wind));
            }
        }
    }

    // ---- the gust buffer, the logger and the archive

    /** "the winds of the last ticks in which the kite flew, at most 8 of them, the oldest one first". */
    private static void bufferFills() {
        KiteLogger x = flight("kite 1 999 9999;gusts 16 15 14 13 12 11 10 9 8 7 6 5;interval 20;", "out 10;launch;");
        for (int ticks = 0; ticks <= 30; ticks++) {
            int size = Math.min(ticks, 8);
            int greatest = 0;
            int sum = 0;
            Check.same("10: after " + ticks, size, x.bufferSize());
            for (int i = 0; i < size; i++) {
                int wind = 16 - (ticks - size + i) % 12;
                greatest = Math.max(greatest, wind);
                sum += wind;
                Check.same("11: wind " + i + " after " + ticks, wind, x.bufferedWind(i));
            }
            Check.same("11: behind the last after " + ticks, -1, x.bufferedWind(size));
            Check.same("11: before the first after " + ticks, -1, x.bufferedWind(-1));
            Check.same("12: after " + ticks, greatest, x.greatestWind());
            Check.same("13: after " + ticks, size == 0 ? 0.0 : (double) sum / (double) size, x.meanWind());
            x.passTicks(1);
        }
    }

    /** The wind of a tick comes into the buffer before the bridle snaps and before the kite lands. */
    private static void bufferOfEachTick() {
        KiteLogger x = flight("kite 4 1 1;gusts 10;interval 1;", "out 10;launch;wait 1;");
        Check.same("16: it snaps in its first tick", true, x.isFallen());
        Check.same("11: the wind of the snap", 10, x.bufferedWind(0));
        x.passTicks(3);
        Check.same("10: the fallen kite has no wind", 1, x.bufferSize());
        KiteLogger y = flight("kite 1 999 9999;gusts 5 0 0 0;interval 1;", "out 10;launch;wait 3;");
        Check.same("14: it has landed", true, y.isLanded());
        Check.same("10: with the wind of the landing", 3, y.bufferSize());
        y.passTicks(1);
        Check.same("10: the landed kite has no wind", 3, y.bufferSize());
        y.launch();
        Check.same("10: empty again", 0, y.bufferSize());
        Check.same("12: empty again", 0, y.greatestWind());
        Check.same("13: empty again", 0.0, y.meanWind());
        Check.same("11: empty again", -1, y.bufferedWind(0));
    }

    /** "If the logger is full when a sample is made, its oldest sample is dropped." */
    private static void loggerFills() {
        KiteLogger x = flight(STRONG, "out 100;launch;");
        for (int ticks = 0; ticks <= 100; ticks++) {
            int count = Math.min(ticks, 30);
            Check.same("30: after " + ticks, count, x.loggedCount());
            Check.same("34: after " + ticks, Math.max(0, ticks - 30), x.droppedCount());
            Check.same("44: after " + ticks, 0, x.gap());
            Check.same("43: after " + ticks, 0.0f, x.archivedShare());
            for (int i = 0; i < count; i++) {
                Check.same("31: tick " + i + " after " + ticks, ticks - count + i, x.loggedTick(i));
                Check.same("32: height " + i + " after " + ticks, Math.min(100, 20 + 10 * (ticks - count + i)), x.loggedHeight(i));
            }
            Check.refuses("31: behind the last after " + ticks, Check.INDEX, () -> x.loggedTick(count));
            Check.refuses("32: behind the last after " + ticks, Check.INDEX, () -> x.loggedHeight(count));
            Check.refuses("33: behind the last after " + ticks, Check.INDEX, () -> x.loggedGust(count));
            x.passTicks(1);
        }
    }

    /** "or the archive would contain more than 90 samples". */
    private static void archiveFills() {
        KiteLogger x = flight(STRONG, "repeat 3(out 50;launch;wait 30;in 50;archive;);");
        Check.same("35: just 90", 90, x.archivedCount());
        Check.same("36: first", 0, x.archivedTick(0));
        Check.same("36: last", 89, x.archivedTick(89));
        Check.same("37: last", 50, x.archivedHeight(89));
        Check.same("38: last", 10, x.archivedGust(89));
        Check.refuses("36: behind the last", Check.INDEX, () -> x.archivedTick(90));
        Check.refuses("37: behind the last", Check.INDEX, () -> x.archivedHeight(90));
        Check.refuses("38: behind the last", Check.INDEX, () -> x.archivedGust(90));
        Check.same("39: all", 90, x.archivedBetween(0, 600));
        Check.same("41: last", 89, x.archivedBefore(9999));
        Check.same("43: all", 1.0f, x.archivedShare());
        Check.same("55: an empty logger into a full archive", 0, x.archive());
        Check.run(x, "out 50;launch;wait 1;in 50;");
        Check.refuses("55: 91", Check.STATE, x::archive);
        Check.same("57: 91", 0, Check.run(x, "archive;every 9;"));
        Check.same("30: the sample stays in the logger", 1, x.loggedCount());
        Check.same("35: the archive stays", 90, x.archivedCount());
        Check.same("43: 90 of 91", 90.0f / 91.0f, x.archivedShare());
        Check.same("44: gap", 0, x.gap());
    }

    // ---- the bridle

    /** "If it is greater than the limit, the wear increases by the difference." The load is 4 * 10 * 10 / 8 = 50. */
    private static void loadBesideTheLimit() {
        int[] limits = {52, 51, 50, 49, 48, 1};
        int[] wears = {0, 0, 0, 1, 2, 49};
        for (int i = 0; i < limits.length; i++) {
            KiteLogger x = flight("kite 4 " + limits[i] + " 9999;gusts 10;interval 1;", "out 10;launch;wait 1;");
            Check.same("22: limit " + limits[i], wears[i], x.wear());
            x.passTicks(10);
            Check.same("22: limit " + limits[i], 11 * wears[i], x.wear());
        }
    }

    /** "If the wear is at least the endurance then .. the bridle snaps". */
    private static void wearBesideTheEndurance() {
        for (int endurance = 1; endurance <= 40; endurance++) {
            // The wear grows by 1 in each tick.
            KiteLogger x = flight("kite 4 49 " + endurance + ";gusts 10;interval 1;", "out 10;launch;");
            if (endurance > 1) {
                x.passTicks(endurance - 1);
            }
            Check.same("22: 1 below " + endurance, endurance - 1, x.wear());
            Check.same("15: 1 below " + endurance, true, x.isFlying());
            Check.same("47: 1 below " + endurance, 1, x.ticksToSnap());
            x.passTicks(1);
            Check.same("22: just " + endurance, endurance, x.wear());
            Check.same("16: just " + endurance, true, x.isFallen());
            Check.same("27: just " + endurance, 1, x.snaps());
            Check.same("17: just " + endurance, 0, x.height());
            Check.same("18: just " + endurance, 0, x.tether());
            Check.same("30: no sample of the snap", Math.min(endurance - 1, 30), x.loggedCount());
            x.passTicks(5);
            Check.same("22: a fallen kite does not wear", endurance, x.wear());
            Check.same("27: a fallen kite does not snap", 1, x.snaps());
        }
    }

    private static void wearBeyondTheEndurance() {
        KiteLogger x = flight("kite 4 20 50;gusts 10;interval 1;", "out 10;launch;wait 1;");
        Check.same("22: 30 of 50", 30, x.wear());
        Check.same("15: 30 of 50", true, x.isFlying());
        x.passTicks(1);
        Check.same("22: 60 of 50", 60, x.wear());
        Check.same("16: 60 of 50", true, x.isFallen());
        KiteLogger y = flight("kite 4 1 9999;gusts 30;interval 1;", "out 200;out 200;out 200;launch;wait 16;");
        Check.same("15: the greatest endurance", true, y.isFlying());
        int wear = y.wear();
        while (y.isFlying()) {
            y.passTicks(1);
            Check.same("16: the greatest endurance", y.wear() >= 9999, y.isFallen());
        }
        Check.same("22: more than the greatest endurance", true, wear < 9999 && y.wear() >= 9999);
        // "whether it has increased in this tick or not": the worn bridle is launched again in a calm wind.
        KiteLogger z = flight("kite 4 40 10;gusts 10 5;interval 1;", "out 10;launch;wait 1;search 10;out 10;launch;");
        Check.same("22: it is worn", 10, z.wear());
        Check.same("15: it flies", true, z.isFlying());
        Check.same("47: it will snap at once", 1, z.ticksToSnap());
        Check.same("46: it will snap at once", 0, z.heightAfter(1));
        z.passTicks(1);
        Check.same("22: no more wear", 10, z.wear());
        Check.same("16: it has snapped", true, z.isFallen());
        Check.same("27: it has snapped again", 2, z.snaps());
    }

    /** "its distance from the station is the wind times the height, divided by 10 and rounded down". */
    private static void distanceRoundedDown() {
        // The wear grows by 1 in each tick, so that the endurance tells the tick of the snap.
        for (int endurance = 1; endurance <= 12; endurance++) {
            int height = 10 + 7 * (endurance - 1);
            placeOf("kite 4 23 " + endurance + ";gusts 7;interval 1;", endurance, (int) Math.floor(7 * height / 10.0));
        }
        for (int endurance = 1; endurance <= 9; endurance++) {
            int height = 10 + 9 * (endurance - 1);
            placeOf("kite 4 39 " + endurance + ";gusts 9;interval 1;", endurance, (int) Math.floor(9 * height / 10.0));
        }
        // The least place: a wind of 5 at 10 meters. The greatest one: a wind of 36 at 600 meters.
        placeOf("kite 4 1 1;gusts 5;interval 1;", 1, 5);
        KiteLogger x = flight("kite 1 161 1;gusts 30;interval 1;", "out 200;out 200;out 200;launch;wait 60;wait 60;wait 60;");
        Check.same("25: silent", 0, x.beaconTime());
        Check.same("54: 2164", -1, searchedAndUndone(x, 2164));
        Check.same("54: 2163", 0, searchedAndUndone(x, 2163));
        Check.same("54: 2157", 0, searchedAndUndone(x, 2157));
        Check.same("54: 2156", -1, searchedAndUndone(x, 2156));
    }

    private static int searchedAndUndone(KiteLogger x, int place) {
        int answer = x.search(place);
        x.undo();
        return answer;
    }

    private static void placeOf(String station, int ticks, int due) {
        KiteLogger x = flight(station, "out 200;launch;");
        x.passTicks(ticks);
        Check.same("16: fallen, " + station, true, x.isFallen());
        Check.same("54: 20 beyond, " + station, 0, searchedAndUndone(x, due + 20));
        Check.same("54: 21 beyond, " + station, 1, searchedAndUndone(x, due + 21));
        Check.run(x, "repeat 2(wait 60;);");
        Check.same("54: 3 beyond, " + station, 0, searchedAndUndone(x, due + 3));
        Check.same("54: 4 beyond, " + station, -1, searchedAndUndone(x, due + 4));
        Check.same("54: 3 before, " + station, 0, searchedAndUndone(x, due - 3));
        Check.same("54: 4 before, " + station, -1, searchedAndUndone(x, due - 4));
    }

    /** "its beacon will last for 120 ticks"; "1 tick less, but not less than 0". */
    private static void beaconOfEachTick() {
        KiteLogger x = flight("kite 4 1 1;gusts 10;interval 1;", "out 10;launch;wait 1;");
        for (int ticks = 0; ticks <= 125; ticks++) {
            Check.same("25: after " + ticks, Math.max(0, 120 - ticks), x.beaconTime());
            Check.same("54: 20 off after " + ticks, ticks < 120 ? 0 : -1, searchedAndUndone(x, 30));
            Check.same("54: 3 off after " + ticks, 0, searchedAndUndone(x, 13));
            x.passTicks(1);
        }
        x.search(10);
        Check.same("25: of a found kite", 0, x.beaconTime());
        Check.run(x, "out 10;launch;wait 1;");
        Check.same("25: the next beacon lasts as long", 120, x.beaconTime());
    }

    // ---- the height

    /** "the height increases by the wind, but not above the tether". */
    private static void heightBesideTheTether() {
        for (int tether = 10; tether <= 45; tether++) {
            KiteLogger x = Check.station("kite 1 999 9999;gusts 12;interval 1;");
            x.payOut(tether);
            x.launch();
            Check.same("17: a launch with " + tether, 10, x.height());
            for (int ticks = 1; ticks <= 4; ticks++) {
                Check.same("46: " + ticks + " with " + tether, Math.min(tether, 10 + 12 * ticks), x.heightAfter(ticks));
            }
            for (int ticks = 1; ticks <= 4; ticks++) {
                x.passTicks(1);
                Check.same("17: " + ticks + " with " + tether, Math.min(tether, 10 + 12 * ticks), x.height());
            }
        }
        KiteLogger y = flight("kite 1 999 9999;gusts 30;interval 20;", "out 200;out 200;out 199;launch;wait 60;");
        Check.same("17: 599", 599, y.height());
        y.payOut(1);
        y.passTicks(1);
        Check.same("17: the greatest height", 600, y.height());
        Check.same("11: the wind below it", 35, y.bufferedWind(7));
        y.passTicks(1);
        Check.same("17: never above it", 600, y.height());
        Check.same("11: the greatest wind", 36, y.bufferedWind(7));
    }

    /** "otherwise it decreases by 6 minus the wind, but not below 0. If the height is 0 then, the kite is landed." */
    private static void heightBesideTheGround() {
        for (int gust = 0; gust <= 4; gust++) {
            for (int tether = 1; tether <= 9; tether++) {
                KiteLogger x = Check.station("kite 1 999 9999;gusts 10 " + gust + ";interval 1;");
                Check.run(x, "out 10;launch;");
                x.reelIn(10 - tether);
                x.passTicks(1);
                int due = Math.max(0, tether - (6 - gust));
                Check.same("17: before", tether, x.height());
                Check.same("46: a gust of " + gust + " at " + tether, due, x.heightAfter(1));
                x.passTicks(1);
                Check.same("17: a gust of " + gust + " at " + tether, due, x.height());
                Check.same("14: a gust of " + gust + " at " + tether, due == 0, x.isLanded());
                Check.same("15: a gust of " + gust + " at " + tether, due > 0, x.isFlying());
                Check.same("24: a gust of " + gust + " at " + tether, due > 0 ? 2 : 0, x.flightTime());
                Check.same("30: a gust of " + gust + " at " + tether, due > 0 ? 2 : 1, x.loggedCount());
                Check.same("18: the tether stays", tether, x.tether());
            }
        }
    }

    /** "If the wind is 5 or more": the wind, not the gust, so that it is 1 more at 100 meters. */
    private static void windBesideFive() {
        KiteLogger x = flight("kite 1 999 9999;gusts 30 30 30 4;interval 1;", "out 99;launch;wait 3;");
        Check.same("17: 99 meters", 99, x.height());
        x.passTicks(1);
        Check.same("17: a wind of 4 at 99 meters", 97, x.height());
        KiteLogger y = flight("kite 1 999 9999;gusts 30 30 30 4;interval 1;", "out 100;launch;wait 3;");
        Check.same("17: 100 meters", 100, y.height());
        y.payOut(100);
        y.passTicks(1);
        Check.same("17: a wind of 5 at 100 meters", 105, y.height());
    }

    /** A kite that has landed has its tether, its samples and its wear, and does not rise again by itself. */
    private static void landingOfTheKite() {
        KiteLogger x = flight("kite 4 1 9999;gusts 10 0 0 0 30;interval 1;", "out 12;launch;wait 3;");
        Check.same("14: landed", true, x.isLanded());
        int wear = x.wear();
        Check.same("18: tether", 12, x.tether());
        Check.same("30: samples", 2, x.loggedCount());
        x.passTicks(60);
        Check.same("17: height", 0, x.height());
        Check.same("22: wear", wear, x.wear());
        Check.same("30: samples", 2, x.loggedCount());
        Check.same("24: flightTime", 0, x.flightTime());
        Check.same("26: launches", 1, x.launches());
        Check.same("25: beaconTime", 0, x.beaconTime());
    }

    // ---- the interval

    /** "the number of ticks since its launch, this one included, is divisible by the interval". */
    private static void intervals() {
        for (int interval = 1; interval <= 20; interval++) {
            KiteLogger x = flight(STRONG, "out 50;launch;");
            x.setInterval(interval);
            for (int ticks = 1; ticks <= 41; ticks++) {
                Check.same("56: tick " + ticks + " by " + interval, ticks % interval == 0 ? 1 : 0, x.passTicks(1));
            }
            int made = 41 / interval;
            Check.same("30: by " + interval, Math.min(made, 30), x.loggedCount());
            Check.same("31: by " + interval, made * interval - 1, x.loggedTick(x.loggedCount() - 1));
        }
    }

    private static void intervalCountsFromTheLaunch() {
        KiteLogger x = flight("kite 1 999 9999;gusts 10;interval 4;", "out 50;wait 3;launch;wait 3;");
        Check.same("30: 3 ticks", 0, x.loggedCount());
        x.passTicks(1);
        Check.same("31: 4 ticks since the launch", 6, x.loggedTick(0));
        Check.run(x, "in 50;out 50;launch;wait 3;");
        Check.same("24: it counts from the new launch", 3, x.flightTime());
        Check.same("30: 3 ticks", 1, x.loggedCount());
        x.setInterval(1);
        x.passTicks(1);
        Check.same("31: a new interval counts from the launch too", 10, x.loggedTick(1));
        x.setInterval(5);
        Check.same("56: 5 ticks since the launch", 1, x.passTicks(1));
        x.setInterval(3);
        Check.same("56: 6 ticks since the launch", 1, x.passTicks(1));
        Check.same("56: 7 and 8", 0, x.passTicks(2));
    }

    // ---- changes at their limits

    private static void launchAtItsLimits() {
        for (int gust = 0; gust <= 8; gust++) {
            for (int tether : new int[] {1, 9, 10, 11}) {
                KiteLogger x = Check.station("kite 1 999 9999;gusts " + gust + ";interval 1;");
                x.payOut(tether);
                int due = tether < 10 ? 3 : gust < 5 ? 4 : 0;
                Check.same("45: gust " + gust + ", tether " + tether, due, x.launchObstacle());
                Check.same("49: gust " + gust + ", tether " + tether, due == 0 ? 1 : Check.STATE, Check.answer(x::launch));
            }
        }
        // The gust at height 0 counts, not the wind above.
        KiteLogger y = flight("kite 1 999 9999;gusts 4;interval 1;", "out 200;out 200;");
        Check.same("45: a gust of 4 and a long tether", 4, y.launchObstacle());
        // Flying and fallen come before what else holds.
        KiteLogger z = flight("kite 4 1 1;gusts 5 0;interval 1;", "out 10;launch;");
        z.reelIn(9);
        Check.same("45: flying with 1 meter", 1, z.launchObstacle());
        z.passTicks(1);
        Check.same("45: fallen, with no tether and no wind", 2, z.launchObstacle());
    }

    private static void tetherAtItsLimits() {
        for (int first = 1; first <= 200; first++) {
            KiteLogger x = new KiteLogger();
            x.payOut(200);
            x.payOut(200);
            x.payOut(first);
            int rest = 200 - first;
            Check.refuses("50: 601 by " + (rest + 1), Check.STATE, () -> x.payOut(rest + 1));
            Check.same("18: it stays", 400 + first, x.tether());
            if (rest > 0) {
                Check.same("50: 600 by " + rest, 600, x.payOut(rest));
            }
            Check.refuses("50: 601 by 1", Check.STATE, () -> x.payOut(1));
            Check.same("18: the greatest tether", 600, x.tether());
        }
    }

    /** "as far as there is some. If the kite is higher than the tether then, its height becomes the tether". */
    private static void reelInAtItsLimits() {
        for (int meters = 1; meters <= 60; meters++) {
            KiteLogger x = flight(STRONG, "out 50;launch;wait 2;");
            int tether = Math.max(0, 50 - meters);
            Check.same("51: " + meters + " of 50", tether, Check.answer(reelIn(x, meters)));
            Check.same("18: " + meters + " of 50", tether, x.tether());
            Check.same("17: " + meters + " of 50", Math.min(30, tether), x.height());
            Check.same("14: " + meters + " of 50", tether == 0, x.isLanded());
            Check.same("15: " + meters + " of 50", tether > 0, x.isFlying());
            Check.same("24: " + meters + " of 50", tether > 0 ? 2 : 0, x.flightTime());
        }
        KiteLogger y = new KiteLogger();
        Check.same("51: a landed kite without tether", 0, y.reelIn(200));
        Check.same("14: it stays landed", true, y.isLanded());
    }

    private static Check.Call reelIn(KiteLogger x, int meters) {
        return () -> x.reelIn(meters);
    }

    /** "at most 20, or at most 3 if the beacon is silent"; "divided by 20 and rounded down, which is at least 1". */
    private static void searchAtItsLimits() {
        KiteLogger x = flight("kite 4 40 100;gusts 10;interval 1;", "out 50;launch;wait 10;");
        for (int place = 0; place <= 200; place++) {
            int difference = Math.abs(place - 50);
            Check.same("54: at " + place, difference <= 20 ? 0 : difference / 20, searchedAndUndone(x, place));
        }
        Check.same("54: at 2200", 107, searchedAndUndone(x, 2200));
        Check.same("28: undone", 0, x.searches());
        Check.run(x, "repeat 2(wait 60;);");
        for (int place = 0; place <= 200; place++) {
            Check.same("54: silent at " + place, Math.abs(place - 50) <= 3 ? 0 : -1, searchedAndUndone(x, place));
        }
        Check.same("54: silent at 2200", -1, searchedAndUndone(x, 2200));
        x.search(2200);
        x.search(0);
        Check.same("28: those that find nothing count", 2, x.searches());
        x.search(50);
        Check.same("28: the one that finds counts", 3, x.searches());
        Check.same("14: landed", true, x.isLanded());
        Check.same("22: still worn", 100, x.wear());
        Check.same("17: on the ground", 0, x.height());
        Check.same("18: without tether", 0, x.tether());
    }

    // ---- questions at their limits

    private static void archivedQuestionsAtTheirLimits() {
        KiteLogger x = flight(STRONG, "out 50;wait 5;launch;wait 3;in 50;archive;");
        // The samples: 5@20, 6@30, 7@40.
        int[] edges = {Integer.MIN_VALUE, -1, 0, 19, 20, 21, 39, 40, 41, 600, Integer.MAX_VALUE};
        for (int low : edges) {
            for (int high : edges) {
                int due = 0;
                for (int height = 20; height <= 40; height += 10) {
                    due += height >= low && height <= high ? 1 : 0;
                }
                Check.same("39: " + low + " to " + high, due, x.archivedBetween(low, high));
            }
        }
        int[] ticks = {Integer.MIN_VALUE, -1, 0, 4, 5, 6, 7, 8, 9999, 10000, Integer.MAX_VALUE};
        int[] indexes = {-1, -1, -1, -1, 0, 1, 2, 2, 2, 2, 2};
        for (int i = 0; i < ticks.length; i++) {
            Check.same("41: " + ticks[i], indexes[i], x.archivedBefore(ticks[i]));
        }
        KiteLogger y = new KiteLogger();
        for (int edge : edges) {
            Check.same("39: nothing archived", 0, y.archivedBetween(edge, Integer.MAX_VALUE));
            Check.same("41: nothing archived", -1, y.archivedBefore(edge));
        }
        Check.same("40: nothing archived", -1, y.highestArchived());
    }

    /** "0 to 6: the heights from 100 times the layer to 100 times the layer plus 99". */
    private static void layersAtTheirLimits() {
        int[] tethers = {99, 100, 199, 200, 299, 300, 399, 400, 499, 500, 599, 600};
        for (int tether : tethers) {
            KiteLogger x = Check.station("kite 1 999 9999;gusts 30;interval 20;");
            for (int rest = tether; rest > 0; rest -= 200) {
                x.payOut(Math.min(rest, 200));
            }
            Check.run(x, "launch;wait 40;in 200;in 200;in 200;archive;");
            Check.same("35: two samples", 2, x.archivedCount());
            Check.same("37: first one at " + tether, tether, x.archivedHeight(0));
            Check.same("37: second one at " + tether, tether, x.archivedHeight(1));
            int due = tether / 100;
            for (int layer = 0; layer <= 6; layer++) {
                Check.same("42: " + tether + " in " + layer, layer == due ? 30.0 + due : 0.0, x.meanGust(layer));
            }
        }
    }

    private static void forecastAtItsLimits() {
        // The wear grows by 1 in each tick, and the tether is reached after 4.
        KiteLogger x = flight("kite 4 49 100;gusts 10;interval 1;", "out 50;launch;");
        Check.same("46: 0 ticks", 10, x.heightAfter(0));
        Check.same("46: 1 tick", 20, x.heightAfter(1));
        Check.same("46: 99 ticks", 50, x.heightAfter(99));
        Check.same("46: it snaps in the last of 100", 0, x.heightAfter(100));
        Check.same("47: it snaps in the last of 100", 100, x.ticksToSnap());
        Check.same("17: nothing has passed", 10, x.height());
        KiteLogger y = flight("kite 4 49 101;gusts 10;interval 1;", "out 50;launch;");
        Check.same("46: one tick too early", 50, y.heightAfter(100));
    }

    private static void forecastOnTheGround() {
        KiteLogger x = flight(STRONG, "out 50;");
        KiteLogger y = flight("kite 4 1 1;gusts 10;interval 1;", "out 50;launch;wait 1;");
        for (int ticks : new int[] {0, 1, 50, 100}) {
            Check.same("46: landed, " + ticks, 0, x.heightAfter(ticks));
            Check.same("46: fallen, " + ticks, 0, y.heightAfter(ticks));
        }
        Check.same("47: landed", -1, x.ticksToSnap());
        Check.same("47: fallen", -1, y.ticksToSnap());
        // A worn bridle on the ground does not snap.
        y.search(10);
        Check.same("47: worn and landed", -1, y.ticksToSnap());
    }

    /** "1 to 200, in the last of which it snaps"; "Ticks beyond tick 9999 do not pass." */
    private static void snapForecastAtItsLimits() {
        for (int endurance : new int[] {1, 2, 199, 200, 201}) {
            KiteLogger x = flight("kite 4 49 " + endurance + ";gusts 10;interval 1;", "out 50;launch;");
            Check.same("47: in " + endurance, endurance <= 200 ? endurance : -1, x.ticksToSnap());
        }
        for (int endurance = 38; endurance <= 42; endurance++) {
            KiteLogger x = Check.station("kite 4 49 " + endurance + ";gusts 10;interval 1;");
            passTo(x, 9960);
            Check.run(x, "out 50;launch;");
            Check.same("47: 40 ticks are left, " + endurance, endurance <= 40 ? endurance : -1, x.ticksToSnap());
            Check.same("46: 40 ticks are left, " + endurance, endurance <= 40 ? 0 : 50, x.heightAfter(100));
            x.passTicks(40);
            Check.same("16: after the last tick, " + endurance, endurance <= 40, x.isFallen());
            Check.same("47: no tick is left", -1, x.ticksToSnap());
            Check.same("46: no tick is left", x.height(), x.heightAfter(100));
        }
    }

    /** "Ticks are numbered from 0 to 9999." */
    private static void firstAndLastTick() {
        KiteLogger x = flight(STRONG, "out 50;launch;wait 1;");
        Check.same("31: the first tick", 0, x.loggedTick(0));
        Check.same("6: the present tick is the next one", 1, x.tick());
        Check.run(x, "in 50;");
        passTo(x, 9990);
        for (int ticks : new int[] {11, 12, 60}) {
            Check.refuses("56: " + ticks + " of 10", Check.STATE, () -> x.passTicks(ticks));
            Check.same("57: " + ticks + " of 10", 0, Check.run(x, "wait " + ticks + ";"));
        }
        Check.same("6: none of them has passed", 9990, x.tick());
        Check.run(x, "out 50;launch;");
        Check.same("56: 10 of 10", 10, x.passTicks(10));
        Check.same("6: all have passed", 10000, x.tick());
        Check.same("31: the last tick", 9999, x.loggedTick(10));
        Check.refuses("56: 1 of none", Check.STATE, () -> x.passTicks(1));
        Check.refuses("56: out of range comes first", Check.ARGUMENT, () -> x.passTicks(0));
        Check.same("51: other changes go on", 40, x.reelIn(10));
        Check.same("58: the last sample", "9999@50,10", tail(x, 10));
    }

    private static String tail(KiteLogger x, int length) {
        String output = Check.output(x, x.writeLogger());
        return output.substring(output.length() - length);
    }

    // ---- history

    /** "Each call of one of them that returns normally is a change, even if nothing is different afterwards." */
    private static void changesWithoutADifference() {
        KiteLogger x = Check.station(STRONG);
        x.reelIn(1);
        Check.same("60: no tether to reel in", 1, x.undoableCount());
        x.setInterval(1);
        Check.same("60: the same interval", 2, x.undoableCount());
        x.replaceBridle(999, 9999);
        Check.same("60: the same bridle", 3, x.undoableCount());
        x.archive();
        Check.same("60: no sample to archive", 4, x.undoableCount());
        Check.run(x, "");
        Check.same("60: a script without commands", 5, x.undoableCount());
        Check.run(x, "launch;wait 5;");
        Check.same("60: a script none of whose commands is executed", 6, x.undoableCount());
        Check.run(x, "repeat 5(repeat 5(););");
        Check.same("60: a script of empty repeats", 7, x.undoableCount());
        Check.run(x, "launch");
        Check.same("60: a parse error is not a change", 7, x.undoableCount());
        Check.same("61: each of them is undone", 6, x.undo());
        KiteLogger y = flight("kite 4 1 1;gusts 10;interval 1;", "out 10;launch;wait 1;");
        y.search(2200);
        Check.same("60: a search that finds nothing", 2, y.undoableCount());
    }

    /** "The latest 8 changes can be undone, the latest one first. An older change cannot be undone any more." */
    private static void eightChanges() {
        for (int changes = 0; changes <= 20; changes++) {
            KiteLogger x = new KiteLogger();
            for (int i = 0; i < changes; i++) {
                x.payOut(1);
            }
            int kept = Math.min(changes, 8);
            Check.same("60: after " + changes, kept, x.undoableCount());
            for (int i = 1; i <= kept; i++) {
                Check.same("61: " + i + " of " + changes, kept - i, x.undo());
                Check.same("18: " + i + " of " + changes, changes - i, x.tether());
            }
            Check.refuses("61: an older one of " + changes, Check.STATE, x::undo);
            Check.same("18: an older one of " + changes, changes - kept, x.tether());
        }
    }

    /** "the station becomes as it was before it": also the place of a kite that has fallen twice. */
    private static void undoOfThePlace() {
        KiteLogger x = flight("kite 4 40 50;gusts 10;interval 1;", "out 200;launch;wait 5;");
        x.saveSnapshot();
        Check.same("54: the first place", 0, searchedAndUndone(x, 50 - 20));
        x.search(50);
        Check.run(x, "out 10;launch;wait 1;");
        Check.same("54: the second place", 2, searchedAndUndone(x, 50));
        x.undo();
        x.undo();
        Check.same("16: fallen for the first time", true, x.isFallen());
        Check.same("54: the first place again", 0, searchedAndUndone(x, 50 + 20));
        x.search(50);
        Check.run(x, "out 10;launch;wait 1;");
        x.restoreSnapshot();
        Check.same("54: the first place again", 0, x.search(50 + 20));
    }

    private static void snapshotAtItsLimits() {
        KiteLogger x = new KiteLogger();
        Check.refuses("63: none", Check.STATE, x::restoreSnapshot);
        x.saveSnapshot();
        Check.same("63: a new station", 0, x.restoreSnapshot());
        passTo(x, 9980);
        x.passTicks(20);
        x.saveSnapshot();
        Check.same("63: the last tick", 10000, x.restoreSnapshot());
        Check.load(x, "kite 5");
        Check.same("63: kept when a station has an error", 10000, x.restoreSnapshot());
        Check.refuses("3: a length that is refused", Check.ARGUMENT, () -> x.loadStation(1));
        Check.same("63: kept when a station is refused", 10000, x.restoreSnapshot());
        Check.load(x, STRONG);
        Check.refuses("63: discarded by a new station", Check.STATE, x::restoreSnapshot);
        x.saveSnapshot();
        Check.same("63: of the new station", 0, x.restoreSnapshot());
        for (int i = 0; i < 9; i++) {
            x.payOut(1);
        }
        x.saveSnapshot();
        Check.same("62: the history stays", 8, x.undoableCount());
        Check.same("61: the history stays", 7, x.undo());
        x.restoreSnapshot();
        Check.same("18: as it was saved", 9, x.tether());
        Check.same("63: the history is cleared", 0, x.undoableCount());
    }

    // ---- scripts and output

    /** "Execution of the whole script stops at the first command whose method would throw an exception". */
    private static void scriptStopsAtEachCommand() {
        stops(new KiteLogger(), "launch;");
        stops(new KiteLogger(), "search 0;");
        stops(flight(STRONG, "out 200;out 200;out 199;"), "out 2;");
        String[] ofTheFlying = {"launch;", "bridle 1 1;", "search 0;", "archive;", "out 200;"};
        for (String command : ofTheFlying) {
            stops(flight(STRONG, "out 200;out 200;out 10;launch;wait 1;"), command);
        }
        String[] ofTheFallen = {"launch;", "out 1;", "in 1;", "bridle 1 1;", "archive;"};
        for (String command : ofTheFallen) {
            stops(flight("kite 4 1 1;gusts 10;interval 1;", "out 10;launch;wait 1;"), command);
        }
        KiteLogger x = new KiteLogger();
        passTo(x, 9999);
        stops(x, "wait 2;");
        x.passTicks(1);
        stops(x, "wait 1;");
        stops(flight(STRONG, "repeat 3(out 50;launch;wait 30;in 50;archive;);out 50;launch;wait 1;in 50;"), "archive;");
    }

    private static void stops(KiteLogger x, String command) {
        int tick = x.tick();
        Check.same("57: stops at " + command, 2, Check.run(x, "every 7;every 8;" + command + "every 9;"));
        Check.same("29: before " + command, 8, x.interval());
        Check.same("57: stops within a repeat at " + command, 1, Check.run(x, "every 6;repeat 2(" + command + "every 9;);every 9;"));
        Check.same("57: stops within two repeats at " + command, 0,
            Check.run(x, "repeat 2(repeat 2(" + command + "every 9;);every 9;);every 9;"));
        Check.same("29: behind " + command, 6, x.interval());
        Check.same("6: tick at " + command, tick, x.tick());
        Check.same("4: no parse error at " + command, 0, x.errorCode());
    }

    private static void outputAtItsLimits() {
        KiteLogger x = flight(STRONG, "out 50;launch;");
        Check.same("58: empty", 0, x.writeLogger());
        Check.refuses("59: empty", Check.INDEX, () -> x.outputByte(0));
        StringBuilder due = new StringBuilder();
        for (int ticks = 1; ticks <= 30; ticks++) {
            x.passTicks(1);
            due.append(ticks == 1 ? "" : " ").append(ticks - 1).append("@").append(Math.min(50, 10 + 10 * ticks)).append(",10");
            Check.same("58: length of " + ticks, due.length(), x.writeLogger());
            Check.same("58: text of " + ticks, due.toString(), Check.output(x, due.length()));
            Check.refuses("59: behind the text of " + ticks, Check.INDEX, () -> x.outputByte(due.length()));
            Check.refuses("59: before the text of " + ticks, Check.INDEX, () -> x.outputByte(-1));
        }
        x.passTicks(1);
        Check.same("59: the old text stays", due.toString(), Check.output(x, due.length()));
        int length = x.writeLogger();
        Check.same("58: the oldest is dropped", due.substring(due.indexOf(" ") + 1) + " 30@50,10", Check.output(x, length));
        Check.run(x, "in 50;archive;");
        Check.same("58: a shorter text replaces a longer one", 0, x.writeLogger());
        Check.refuses("59: nothing of the longer one is left", Check.INDEX, () -> x.outputByte(0));
    }
}
