/** Promises 6 to 13: ticks, gusts, winds and the gust buffer. */
public final class WindTest {
    public static void main(String[] args) {
        ticks();
        pattern();
        windAt();
        lastTick();
        buffer();
        bufferOnTheGround();
        bufferWithHeight();
        Check.end();
    }

    private static void ticks() {
        KiteLogger x = new KiteLogger();
        x.passTicks(1);
        Check.same("6: after 1 tick", 1, x.tick());
        x.passTicks(60);
        Check.same("6: after 61 ticks", 61, x.tick());
    }

    private static void pattern() {
        KiteLogger x = Check.station("kite 1 1 1;gusts 3 30 0 14;interval 1;");
        Check.same("7: patternLength", 4, x.patternLength());
        Check.same("8: gust 0", 3, x.gust(0));
        Check.same("8: gust 1", 30, x.gust(1));
        Check.same("8: gust 3", 14, x.gust(3));
        Check.same("8: gust 4", 3, x.gust(4));
        Check.same("8: gust 9998", 0, x.gust(9998));
        Check.same("8: gust 9999", 14, x.gust(9999));
        Check.refuses("8: gust -1", Check.ARGUMENT, () -> x.gust(-1));
        Check.refuses("8: gust 10000", Check.ARGUMENT, () -> x.gust(10000));
        Check.refuses("8: least gust", Check.ARGUMENT, () -> x.gust(Integer.MIN_VALUE));
        x.passTicks(2);
        Check.same("8: gust does not ask for the present tick", 3, x.gust(0));
        Check.same("7: one gust", 1, Check.load(x, "kite 1 1 1;gusts 9;interval 1;"));
        Check.same("7: one gust", 1, x.patternLength());
    }

    private static void windAt() {
        KiteLogger x = new KiteLogger();
        Check.same("9: windAt 0", 6, x.windAt(0));
        Check.same("9: windAt 99", 6, x.windAt(99));
        Check.same("9: windAt 100", 7, x.windAt(100));
        Check.same("9: windAt 599", 11, x.windAt(599));
        Check.same("9: windAt 600", 12, x.windAt(600));
        Check.refuses("9: windAt -1", Check.ARGUMENT, () -> x.windAt(-1));
        Check.refuses("9: windAt 601", Check.ARGUMENT, () -> x.windAt(601));
        x.passTicks(2);
        Check.same("9: windAt of the present tick", 14, x.windAt(250));
    }

    private static void lastTick() {
        KiteLogger x = new KiteLogger();
        for (int i = 0; i < 166; i++) {
            x.passTicks(60);
        }
        x.passTicks(40);
        Check.same("6: all ticks have passed", 10000, x.tick());
        Check.same("9: windAt by the pattern", 0, x.windAt(0));
        Check.same("9: windAt by the pattern", 6, x.windAt(600));
        Check.refuses("8: gust 10000", Check.ARGUMENT, () -> x.gust(10000));
        Check.same("8: gust 9999", 4, x.gust(9999));
    }

    private static void buffer() {
        KiteLogger x = Check.station("kite 1 999 9999;gusts 11 12 13 14 15 16 17 18 19 20;interval 1;");
        Check.same("13: mean of no wind", 0.0, x.meanWind());
        Check.same("12: greatest of no wind", 0, x.greatestWind());
        Check.same("11: no wind", -1, x.bufferedWind(0));
        Check.run(x, "out 10;launch;wait 1;");
        Check.same("13: mean of one wind", 11.0, x.meanWind());
        x.passTicks(1);
        Check.same("10: two winds", 2, x.bufferSize());
        Check.same("13: mean", 11.5, x.meanWind());
        Check.same("11: third of two", -1, x.bufferedWind(2));
        x.passTicks(6);
        Check.same("10: eight winds", 8, x.bufferSize());
        Check.same("11: oldest", 11, x.bufferedWind(0));
        x.passTicks(1);
        Check.same("10: at most eight winds", 8, x.bufferSize());
        for (int i = 0; i < 8; i++) {
            Check.same("11: wind " + i, 12 + i, x.bufferedWind(i));
        }
        Check.same("11: wind 8", -1, x.bufferedWind(8));
        Check.same("11: wind -1", -1, x.bufferedWind(-1));
        Check.same("11: least index", -1, x.bufferedWind(Integer.MIN_VALUE));
        Check.same("11: greatest index", -1, x.bufferedWind(Integer.MAX_VALUE));
        Check.same("12: greatest", 19, x.greatestWind());
        Check.same("13: mean", 15.5, x.meanWind());
        x.passTicks(2);
        Check.same("11: newest", 11, x.bufferedWind(7));
        Check.same("12: greatest in the middle", 20, x.greatestWind());
        Check.same("13: mean", 130.0 / 8.0, x.meanWind());
        x.passTicks(7);
        Check.same("12: the greatest one has gone", 18, x.greatestWind());
    }

    private static void bufferOnTheGround() {
        KiteLogger x = Check.station("kite 1 999 9999;gusts 9 10 11;interval 1;");
        x.passTicks(3);
        Check.same("10: no wind on the ground", 0, x.bufferSize());
        Check.run(x, "out 10;launch;wait 3;in 10;");
        Check.same("10: winds stay after the landing", 3, x.bufferSize());
        x.passTicks(5);
        Check.same("10: none comes on the ground", 3, x.bufferSize());
        Check.same("13: a mean with a third", 10.0, x.meanWind());
        Check.run(x, "out 10;launch;");
        Check.same("10: the launch empties the buffer", 0, x.bufferSize());
        Check.same("12: greatest", 0, x.greatestWind());
        x.passTicks(2);
        Check.same("11: first wind of the new flight", 11, x.bufferedWind(0));
        Check.same("11: second wind of the new flight", 9, x.bufferedWind(1));
    }

    private static void bufferWithHeight() {
        KiteLogger x = Check.station("kite 1 999 9999;gusts 30;interval 1;");
        Check.run(x, "out 200;launch;wait 8;");
        // The heights before the ticks: 10 40 70 100 131 162 193 200.
        int[] winds = {30, 30, 30, 31, 31, 31, 31, 32};
        for (int i = 0; i < 8; i++) {
            Check.same("11: wind " + i, winds[i], x.bufferedWind(i));
        }
        Check.same("17: height", 200, x.height());
    }
}
