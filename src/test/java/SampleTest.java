/** Promises 29 to 44: the samples in the logger and in the archive. */
public final class SampleTest {
    private static final String SEVEN = "kite 1 999 9999;gusts 10 7;interval 2;";
    private static final int[] TICKS = {1, 3, 5, 7, 9, 11, 13};
    private static final int[] HEIGHTS = {27, 44, 61, 78, 95, 113, 132};
    private static final int[] GUSTS = {10, 10, 10, 10, 10, 10, 11};

    public static void main(String[] args) {
        interval();
        logged();
        samplesOfALongInterval();
        dropped();
        archived();
        searchesInTheArchive();
        highestOfEqualOnes();
        layers();
        share();
        oneSample();
        emptyArchive();
        Check.end();
    }

    private static KiteLogger seven() {
        KiteLogger x = Check.station(SEVEN);
        Check.run(x, "out 200;launch;wait 14;");
        return x;
    }

    private static void interval() {
        KiteLogger x = Check.station(SEVEN);
        Check.same("29: interval", 2, x.interval());
        x.setInterval(20);
        Check.same("29: interval", 20, x.interval());
    }

    private static void logged() {
        KiteLogger x = seven();
        Check.same("30: loggedCount", 7, x.loggedCount());
        for (int i = 0; i < 7; i++) {
            Check.same("31: tick of " + i, TICKS[i], x.loggedTick(i));
            Check.same("32: height of " + i, HEIGHTS[i], x.loggedHeight(i));
            Check.same("33: gust of " + i, GUSTS[i], x.loggedGust(i));
        }
        for (int wrong : new int[] {-1, 7, 30, Integer.MIN_VALUE, Integer.MAX_VALUE}) {
            Check.refuses("31: tick of " + wrong, Check.INDEX, () -> x.loggedTick(wrong));
            Check.refuses("32: height of " + wrong, Check.INDEX, () -> x.loggedHeight(wrong));
            Check.refuses("33: gust of " + wrong, Check.INDEX, () -> x.loggedGust(wrong));
        }
        Check.same("35: nothing is archived in the air", 0, x.archivedCount());
        Check.same("34: nothing is dropped", 0, x.droppedCount());
        Check.same("44: gap", 0, x.gap());
    }

    private static void samplesOfALongInterval() {
        KiteLogger x = Check.station("kite 1 999 9999;gusts 25 9 9 9 9 9 9 9 9 9 9 9 9;interval 12;");
        x.passTicks(5);
        Check.same("30: no sample on the ground", 0, x.loggedCount());
        Check.run(x, "out 10;launch;wait 11;");
        Check.same("30: no sample after 11 ticks", 0, x.loggedCount());
        x.passTicks(1);
        Check.same("30: a sample after 12 ticks", 1, x.loggedCount());
        Check.same("31: its tick", 16, x.loggedTick(0));
        Check.same("33: the greatest of the latest 8 winds", 25, x.loggedGust(0));
        x.setInterval(7);
        x.passTicks(2);
        Check.same("30: 14 is divisible by 7", 2, x.loggedCount());
        Check.same("31: its tick", 18, x.loggedTick(1));
        x.setInterval(5);
        x.passTicks(1);
        Check.same("30: 15 is divisible by 5", 3, x.loggedCount());
        x.passTicks(5);
        Check.same("33: the wind of 25 has left the buffer", 25, x.loggedGust(2));
        Check.same("31: its tick", 24, x.loggedTick(3));
        Check.same("33: 8 winds later", 9, x.loggedGust(3));
    }

    private static void dropped() {
        KiteLogger x = Check.station("kite 1 999 9999;gusts 20;interval 1;");
        Check.run(x, "out 200;launch;wait 30;");
        Check.same("30: full", 30, x.loggedCount());
        Check.same("34: nothing is dropped", 0, x.droppedCount());
        Check.same("31: oldest", 0, x.loggedTick(0));
        Check.same("56: samples that are made", 1, x.passTicks(1));
        Check.same("30: still full", 30, x.loggedCount());
        Check.same("34: one is dropped", 1, x.droppedCount());
        Check.same("31: oldest", 1, x.loggedTick(0));
        Check.same("32: oldest", 50, x.loggedHeight(0));
        Check.same("31: newest", 30, x.loggedTick(29));
        Check.same("56: samples that are made", 60, x.passTicks(60));
        Check.same("34: 61 are dropped", 61, x.droppedCount());
        for (int i = 0; i < 30; i++) {
            Check.same("31: tick of " + i, 61 + i, x.loggedTick(i));
            Check.same("32: height of " + i, 200, x.loggedHeight(i));
            Check.same("33: gust of " + i, 22, x.loggedGust(i));
        }
        Check.same("44: gap", 0, x.gap());
        Check.run(x, "in 200;archive;");
        for (int i = 0; i < 30; i++) {
            Check.same("36: tick of " + i, 61 + i, x.archivedTick(i));
        }
        Check.same("34: the count stays", 61, x.droppedCount());
        Check.same("43: share", (float) 30 / (float) 91, x.archivedShare());
    }

    private static void archived() {
        KiteLogger x = seven();
        x.reelIn(200);
        Check.same("55: archive", 7, x.archive());
        Check.same("35: archivedCount", 7, x.archivedCount());
        Check.same("30: the logger is empty", 0, x.loggedCount());
        Check.refuses("31: no sample is in the logger", Check.INDEX, () -> x.loggedTick(0));
        for (int i = 0; i < 7; i++) {
            Check.same("36: tick of " + i, TICKS[i], x.archivedTick(i));
            Check.same("37: height of " + i, HEIGHTS[i], x.archivedHeight(i));
            Check.same("38: gust of " + i, GUSTS[i], x.archivedGust(i));
        }
        for (int wrong : new int[] {-1, 7, 90, Integer.MIN_VALUE, Integer.MAX_VALUE}) {
            Check.refuses("36: tick of " + wrong, Check.INDEX, () -> x.archivedTick(wrong));
            Check.refuses("37: height of " + wrong, Check.INDEX, () -> x.archivedHeight(wrong));
            Check.refuses("38: gust of " + wrong, Check.INDEX, () -> x.archivedGust(wrong));
        }
        Check.run(x, "out 20;launch;wait 2;in 200;archive;");
        Check.same("35: more is archived", 8, x.archivedCount());
        Check.same("36: behind the older ones", 15, x.archivedTick(7));
        Check.same("37: behind the older ones", 20, x.archivedHeight(7));
        Check.same("44: gap", 0, x.gap());
    }

    private static void searchesInTheArchive() {
        KiteLogger x = seven();
        x.reelIn(200);
        x.archive();
        Check.same("39: all", 7, x.archivedBetween(Integer.MIN_VALUE, Integer.MAX_VALUE));
        Check.same("39: from the lowest to the highest", 7, x.archivedBetween(27, 132));
        Check.same("39: above the lowest", 6, x.archivedBetween(28, 132));
        Check.same("39: below the highest", 6, x.archivedBetween(27, 131));
        Check.same("39: one height", 1, x.archivedBetween(44, 44));
        Check.same("39: low above high", 0, x.archivedBetween(45, 44));
        Check.same("39: between two heights", 0, x.archivedBetween(45, 60));
        Check.same("40: the last one is the highest", 6, x.highestArchived());
        Check.same("41: before the first tick", -1, x.archivedBefore(0));
        Check.same("41: the first tick", 0, x.archivedBefore(1));
        Check.same("41: between two ticks", 0, x.archivedBefore(2));
        Check.same("41: the second tick", 1, x.archivedBefore(3));
        Check.same("41: the last tick", 6, x.archivedBefore(13));
        Check.same("41: any later tick", 6, x.archivedBefore(Integer.MAX_VALUE));
        Check.same("41: the least number", -1, x.archivedBefore(Integer.MIN_VALUE));
        Check.same("42: layer 0", 10.0, x.meanGust(0));
        Check.same("42: layer 1", 10.5, x.meanGust(1));
        Check.same("42: layer 2", 0.0, x.meanGust(2));
        Check.same("42: layer 6", 0.0, x.meanGust(6));
        Check.refuses("42: layer -1", Check.ARGUMENT, () -> x.meanGust(-1));
        Check.refuses("42: layer 7", Check.ARGUMENT, () -> x.meanGust(7));
        Check.refuses("42: a layer whose height would overflow", Check.ARGUMENT, () -> x.meanGust(42949673));
    }

    private static void highestOfEqualOnes() {
        KiteLogger x = Check.station("kite 1 999 9999;gusts 10;interval 1;");
        Check.run(x, "out 30;launch;wait 6;in 200;archive;");
        Check.same("37: second height", 30, x.archivedHeight(1));
        Check.same("37: last height", 30, x.archivedHeight(5));
        Check.same("40: the smallest index of equal ones", 1, x.highestArchived());
        Check.run(x, "out 15;launch;wait 2;in 200;archive;");
        Check.same("40: lower ones behind it", 1, x.highestArchived());
        Check.run(x, "out 31;launch;wait 3;in 200;archive;");
        Check.same("40: a higher one behind it", 10, x.highestArchived());
    }

    /** Two samples at just the height of the tether, archived at once. */
    private static void sampleAt(KiteLogger x, int tether) {
        x.setInterval(20);
        for (int rest = tether; rest > 0; rest -= 200) {
            x.payOut(Math.min(rest, 200));
        }
        Check.run(x, "launch;wait 40;in 200;in 200;in 200;archive;");
    }

    private static void layers() {
        KiteLogger x = Check.station("kite 1 999 9999;gusts 30;interval 20;");
        for (int height : new int[] {99, 100, 199, 200, 599, 600}) {
            sampleAt(x, height);
        }
        Check.same("35: archivedCount", 12, x.archivedCount());
        Check.same("39: at 99", 2, x.archivedBetween(99, 99));
        Check.same("39: at 600", 2, x.archivedBetween(600, 600));
        Check.same("42: layer 0, 99", 30.0, x.meanGust(0));
        Check.same("42: layer 1, 100 and 199", 31.0, x.meanGust(1));
        Check.same("42: layer 2", 32.0, x.meanGust(2));
        Check.same("42: layer 3", 0.0, x.meanGust(3));
        Check.same("42: layer 6, 600", 36.0, x.meanGust(6));
        KiteLogger y = Check.station("kite 1 999 9999;gusts 10 20 20 20 20 20 20 20 20 20 20;interval 1;");
        Check.run(y, "out 10;launch;wait 3;in 200;archive;");
        Check.same("42: a mean with a third", 50.0 / 3.0, y.meanGust(0));
    }

    private static void share() {
        KiteLogger x = seven();
        Check.same("43: none is archived", 0.0f, x.archivedShare());
        Check.run(x, "in 200;archive;");
        Check.same("43: all are archived", 1.0f, x.archivedShare());
        Check.run(x, "every 1;out 20;launch;wait 14;");
        Check.same("43: a third is archived", 7.0f / 21.0f, x.archivedShare());
        x.undo();
        Check.same("43: all again after the undo", 1.0f, x.archivedShare());
        Check.same("44: gap", 0, x.gap());
    }

    private static void oneSample() {
        KiteLogger x = Check.station("kite 1 999 9999;gusts 10;interval 1;");
        Check.run(x, "out 50;launch;wait 1;in 50;archive;");
        Check.same("43: one sample", 1.0f, x.archivedShare());
        Check.same("42: one sample", 10.0, x.meanGust(0));
        Check.same("40: one sample", 0, x.highestArchived());
        Check.run(x, "out 15;launch;wait 3;in 50;archive;");
        Check.same("40: the first one is the highest", 0, x.highestArchived());
        Check.load(x, "kite 1 999 9999;gusts 12;interval 1;");
        Check.run(x, "out 15;launch;wait 1;in 50;archive;");
        Check.same("42: none of the older station's samples", 12.0, x.meanGust(0));
        Check.same("39: none of the older station's samples", 1, x.archivedBetween(0, 600));
    }

    private static void emptyArchive() {
        KiteLogger x = new KiteLogger();
        Check.same("35: archivedCount", 0, x.archivedCount());
        Check.same("39: archivedBetween", 0, x.archivedBetween(0, 600));
        Check.same("40: highestArchived", -1, x.highestArchived());
        Check.same("41: archivedBefore", -1, x.archivedBefore(9999));
        Check.same("42: meanGust", 0.0, x.meanGust(0));
        Check.same("43: archivedShare", 0.0f, x.archivedShare());
        Check.same("44: gap", 0, x.gap());
        Check.refuses("36: archivedTick", Check.INDEX, () -> x.archivedTick(0));
        Check.refuses("37: archivedHeight", Check.INDEX, () -> x.archivedHeight(0));
        Check.refuses("38: archivedGust", Check.INDEX, () -> x.archivedGust(0));
    }
}
