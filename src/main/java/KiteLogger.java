/** A weather kite with a logger: wind, kite, bridle, beacon, samples, scripts and history. */
public final class KiteLogger {

    private static final int TICK_COUNT = 10000;
    private static final int MAX_HEIGHT = 600;
    private static final int MAX_TETHER = 600;
    private static final int LAYER_HEIGHT = 100;
    private static final int TOP_LAYER = 6;
    private static final int MAX_WIND = 36;
    private static final int LIFTING_WIND = 5;
    private static final int SINKING_SUM = 6;
    private static final int LAUNCH_HEIGHT = 10;
    private static final int BEACON_TICKS = 120;
    private static final int BEACON_REACH = 20;
    private static final int SILENT_REACH = 3;

    private static final int MAX_AREA = 4;
    private static final int MAX_LIMIT = 999;
    private static final int MAX_ENDURANCE = 9999;
    private static final int MAX_GUST = 30;
    private static final int MAX_INTERVAL = 20;
    private static final int MAX_METERS = 200;
    private static final int MAX_DISTANCE = 2200;
    private static final int MAX_WAIT = 60;
    private static final int MIN_TIMES = 2;
    private static final int MAX_TIMES = 5;

    private static final int PATTERN_SIZE = 16;
    private static final int WINDS_SIZE = 8;
    private static final int LOGGER_SIZE = 30;
    private static final int ARCHIVE_SIZE = 90;
    private static final int INPUT_SIZE = 500;
    private static final int HISTORY_SIZE = 8;
    private static final int SCRIPT_SIZE = 20;
    private static final int SCRIPT_DEPTH = 2;
    // A written sample takes at most 12 bytes: 4 digits, a sign, 3 digits, a sign, 2 digits, a space.
    private static final int OUTPUT_SIZE = 12 * LOGGER_SIZE;
    private static final int FORECAST_TICKS = 100;
    private static final int SNAP_FORECAST_TICKS = 200;

    private static final int LANDED = 0;
    private static final int FLYING = 1;
    private static final int FALLEN = 2;

    private static final int NO_COMMAND = 0;
    private static final int LAUNCH = 1;
    private static final int OUT = 2;
    private static final int IN = 3;
    private static final int BRIDLE = 4;
    private static final int EVERY = 5;
    private static final int SEARCH = 6;
    private static final int ARCHIVE = 7;
    private static final int WAIT = 8;
    private static final int REPEAT = 9;

    private static final int NO_FAULT = 0;
    private static final int ARGUMENT_FAULT = 1;
    private static final int STATE_FAULT = 2;

    private static final int NOT_ALLOWED = 1;
    private static final int OUT_OF_RANGE = 2;
    private static final int TOO_MANY = 3;

    private static final int[] FIRST_GUSTS = {6, 9, 12, 4, 0, 8};

    private final TextReader text;
    private final StationPlan plan;
    private final Script script;
    private final Station station;
    private final Kite forecast;
    private final History history;
    private final Station snapshot;
    private boolean snapshotSaved;
    private final Output output;

    public KiteLogger() {
        text = new TextReader();
        plan = new StationPlan();
        script = new Script();
        station = new Station();
        forecast = new Kite();
        history = new History();
        snapshot = new Station();
        snapshotSaved = false;
        output = new Output();
        station.setUp(plan);
    }

    // ---- input

    public int appendText(int a, int b, int c, int d, int e) {
        if (!text.hasRoomFor(20)) {
            return -1;
        }
        text.appendFour(a);
        text.appendFour(b);
        text.appendFour(c);
        text.appendFour(d);
        text.appendFour(e);
        return text.filled;
    }

    public int loadStation(int length) throws IllegalArgumentException {
        refuseLength(length);
        boolean read = plan.read(text, length);
        text.filled = 0;
        if (!read) {
            return -1;
        }
        station.setUp(plan);
        history.forget();
        snapshotSaved = false;
        return station.gustCount;
    }

    public int errorCode() {
        return text.errorCode;
    }

    public int errorOffset() {
        return text.errorOffset;
    }

    // ---- wind

    public int tick() {
        return station.tick;
    }

    public int patternLength() {
        return station.gustCount;
    }

    public int gust(int tick) throws IllegalArgumentException {
        refuseOutside(tick, 0, TICK_COUNT - 1);
        return station.gustOf(tick);
    }

    public int windAt(int height) throws IllegalArgumentException {
        refuseOutside(height, 0, MAX_HEIGHT);
        return station.gustOf(station.tick) + height / LAYER_HEIGHT;
    }

    public int bufferSize() {
        return station.winds.count;
    }

    public int bufferedWind(int index) {
        return station.winds.has(index) ? station.winds.at(index) : -1;
    }

    public int greatestWind() {
        return station.winds.greatest();
    }

    public double meanWind() {
        return meanOf(station.winds.sum(), station.winds.count);
    }

    // ---- kite

    public boolean isLanded() {
        return station.kite.mode == LANDED;
    }

    public boolean isFlying() {
        return station.kite.mode == FLYING;
    }

    public boolean isFallen() {
        return station.kite.mode == FALLEN;
    }

    public int height() {
        return station.kite.height;
    }

    public int tether() {
        return station.kite.tether;
    }

    public int area() {
        return station.kite.area;
    }

    public int limit() {
        return station.kite.limit;
    }

    public int endurance() {
        return station.kite.endurance;
    }

    public int wear() {
        return station.kite.wear;
    }

    public int loadOf(int wind) throws IllegalArgumentException {
        refuseOutside(wind, 0, MAX_WIND);
        return station.kite.loadUnder(wind);
    }

    public int flightTime() {
        return station.kite.flightTime;
    }

    public int beaconTime() {
        return station.kite.beacon;
    }

    public int launches() {
        return station.kite.launches;
    }

    public int snaps() {
        return station.kite.snaps;
    }

    public int searches() {
        return station.kite.searches;
    }

    // ---- samples

    public int interval() {
        return station.interval;
    }

    public int loggedCount() {
        return station.logger.count;
    }

    public int loggedTick(int sample) throws IndexOutOfBoundsException {
        refuseMissing(station.logger, sample);
        return station.logger.tickAt(sample);
    }

    public int loggedHeight(int sample) throws IndexOutOfBoundsException {
        refuseMissing(station.logger, sample);
        return station.logger.heightAt(sample);
    }

    public int loggedGust(int sample) throws IndexOutOfBoundsException {
        refuseMissing(station.logger, sample);
        return station.logger.gustAt(sample);
    }

    public int droppedCount() {
        return station.logger.dropped;
    }

    public int archivedCount() {
        return station.archive.count;
    }

    public int archivedTick(int sample) throws IndexOutOfBoundsException {
        refuseMissing(station.archive, sample);
        return station.archive.tickAt(sample);
    }

    public int archivedHeight(int sample) throws IndexOutOfBoundsException {
        refuseMissing(station.archive, sample);
        return station.archive.heightAt(sample);
    }

    public int archivedGust(int sample) throws IndexOutOfBoundsException {
        refuseMissing(station.archive, sample);
        return station.archive.gustAt(sample);
    }

    public int archivedBetween(int low, int high) {
        return station.archive.countBetween(low, high);
    }

    public int highestArchived() {
        return station.archive.highest();
    }

    public int archivedBefore(int tick) {
        return station.archive.lastUntil(tick);
    }

    public double meanGust(int layer) throws IllegalArgumentException {
        refuseOutside(layer, 0, TOP_LAYER);
        int low = layer * LAYER_HEIGHT;
        int high = low + LAYER_HEIGHT - 1;
        return meanOf(station.archive.gustsBetween(low, high), station.archive.countBetween(low, high));
    }

    public float archivedShare() {
        if (station.made < 1) {
            return 0.0f;
        }
        return (float) station.archive.count / (float) station.made;
    }

    public int gap() {
        int kept = station.logger.count + station.archive.count + station.logger.dropped;
        return Math.abs(station.made - kept) + station.logger.misplaced() + station.archive.misplaced();
    }

    // ---- reasons and forecasts

    public int launchObstacle() {
        return station.obstacle();
    }

    public int heightAfter(int ticks) throws IllegalArgumentException {
        refuseOutside(ticks, 0, FORECAST_TICKS);
        forecast.copyFrom(station.kite);
        for (int i = 0; i < ticks && station.tick + i < TICK_COUNT; i++) {
            forecast.passTick(station.gustOf(station.tick + i));
        }
        return forecast.height;
    }

    public int ticksToSnap() {
        if (station.kite.mode != FLYING) {
            return -1;
        }
        forecast.copyFrom(station.kite);
        for (int i = 0; i < SNAP_FORECAST_TICKS && station.tick + i < TICK_COUNT; i++) {
            forecast.passTick(station.gustOf(station.tick + i));
            if (forecast.mode == FALLEN) {
                return i + 1;
            }
        }
        return -1;
    }

    public int safeHeight() {
        int gust = station.greatestGust();
        for (int layer = TOP_LAYER; layer >= 0; layer--) {
            if (station.kite.loadUnder(gust + layer) <= station.kite.limit) {
                return Math.min(MAX_HEIGHT, layer * LAYER_HEIGHT + LAYER_HEIGHT - 1);
            }
        }
        return -1;
    }

    // ---- changes

    public int launch() throws IllegalStateException {
        return change(LAUNCH, 0, 0);
    }

    public int payOut(int meters) throws IllegalArgumentException, IllegalStateException {
        return change(OUT, meters, 0);
    }

    public int reelIn(int meters) throws IllegalArgumentException, IllegalStateException {
        return change(IN, meters, 0);
    }

    public int replaceBridle(int limit, int endurance) throws IllegalArgumentException, IllegalStateException {
        return change(BRIDLE, limit, endurance);
    }

    public int setInterval(int ticks) throws IllegalArgumentException {
        return change(EVERY, ticks, 0);
    }

    public int search(int distance) throws IllegalArgumentException, IllegalStateException {
        return change(SEARCH, distance, 0);
    }

    public int archive() throws IllegalStateException {
        return change(ARCHIVE, 0, 0);
    }

    public int passTicks(int ticks) throws IllegalArgumentException, IllegalStateException {
        return change(WAIT, ticks, 0);
    }

    public int runScript(int length) throws IllegalArgumentException {
        refuseLength(length);
        boolean read = script.read(text, length);
        text.filled = 0;
        if (!read) {
            return -1;
        }
        history.remember(station);
        Script.runBlock(script, station, 0, script.count, 0);
        return script.executed;
    }

    // ---- output and history

    public int writeLogger() {
        return output.writeSamples(station.logger);
    }

    public int outputByte(int index) throws IndexOutOfBoundsException {
        if (index < 0 || index >= output.length) {
            throw new IndexOutOfBoundsException("there is no such byte");
        }
        return output.at(index);
    }

    public int undoableCount() {
        return history.count;
    }

    public int undo() throws IllegalStateException {
        if (history.count < 1) {
            throw new IllegalStateException("there is nothing to undo");
        }
        history.takeBack(station);
        return history.count;
    }

    public void saveSnapshot() {
        snapshot.copyFrom(station);
        snapshotSaved = true;
    }

    public int restoreSnapshot() throws IllegalStateException {
        if (!snapshotSaved) {
            throw new IllegalStateException("there is no snapshot");
        }
        station.copyFrom(snapshot);
        history.forget();
        return station.tick;
    }

    // ---- what the calls share

    // The faults are looked at before anything changes, so a refused call leaves no trace.
    private int change(int command, int first, int second) {
        int fault = station.faultOf(command, first, second);
        if (fault == ARGUMENT_FAULT) {
            throw new IllegalArgumentException("a number is out of range");
        }
        if (fault == STATE_FAULT) {
            throw new IllegalStateException("the station does not allow this now");
        }
        history.remember(station);
        return station.perform(command, first, second);
    }

    private void refuseLength(int length) {
        if (length < 0 || length > text.filled) {
            throw new IllegalArgumentException("the buffer has no text of this length");
        }
    }

    private static void refuseOutside(int value, int low, int high) {
        if (isOutside(value, low, high)) {
            throw new IllegalArgumentException("a number is out of range");
        }
    }

    private static void refuseMissing(Samples samples, int sample) {
        if (!samples.has(sample)) {
            throw new IndexOutOfBoundsException("there is no such sample");
        }
    }

    private static boolean isOutside(int value, int low, int high) {
        return value < low || value > high;
    }

    private static double meanOf(int sum, int number) {
        return number < 1 ? 0.0 : (double) sum / (double) number;
    }

    private static int valueAt(int[] row, int index) {
        return index >= 0 && index < row.length ? row[index] : 0;
    }

    private static void putAt(int[] row, int index, int value) {
        if (index >= 0 && index < row.length) {
            row[index] = value;
        }
    }

    private static void copyRow(int[] from, int[] to) {
        System.arraycopy(from, 0, to, 0, Math.min(from.length, to.length));
    }

    /** The kite with its bridle and beacon, and what has been counted of it. */
    private static final class Kite {
        private int mode = LANDED;
        private int height = 0;
        private int tether = 0;
        private int area = 1;
        private int limit = 1;
        private int endurance = 1;
        private int wear = 0;
        private int distance = 0;
        private int beacon = 0;
        private int flightTime = 0;
        private int launches = 0;
        private int snaps = 0;
        private int searches = 0;

        void setUp(int newArea, int newLimit, int newEndurance) {
            mode = LANDED;
            height = 0;
            tether = 0;
            area = newArea;
            limit = newLimit;
            endurance = newEndurance;
            wear = 0;
            distance = 0;
            beacon = 0;
            flightTime = 0;
            launches = 0;
            snaps = 0;
            searches = 0;
        }

        void copyFrom(Kite other) {
            mode = other.mode;
            height = other.height;
            tether = other.tether;
            area = other.area;
            limit = other.limit;
            endurance = other.endurance;
            wear = other.wear;
            distance = other.distance;
            beacon = other.beacon;
            flightTime = other.flightTime;
            launches = other.launches;
            snaps = other.snaps;
            searches = other.searches;
        }

        int windOver(int gust) {
            return gust + height / LAYER_HEIGHT;
        }

        int loadUnder(int wind) {
            return area * wind * wind / 8;
        }

        void passTick(int gust) {
            if (mode == FLYING) {
                fly(windOver(gust));
            } else if (mode == FALLEN && beacon > 0) {
                beacon--;
            }
        }

        private void fly(int wind) {
            flightTime++;
            int excess = loadUnder(wind) - limit;
            if (excess > 0) {
                wear += excess;
            }
            // A bridle that was worn before the launch snaps in calm wind too.
            if (wear >= endurance) {
                fall(wind);
                return;
            }
            if (wind >= LIFTING_WIND) {
                height = Math.min(height + wind, tether);
            } else {
                height = Math.max(height - (SINKING_SUM - wind), 0);
            }
            landOnGround();
        }

        private void fall(int wind) {
            mode = FALLEN;
            distance = wind * height / 10;
            height = 0;
            tether = 0;
            flightTime = 0;
            beacon = BEACON_TICKS;
            snaps++;
        }

        private void landOnGround() {
            if (mode == FLYING && height == 0) {
                mode = LANDED;
                flightTime = 0;
            }
        }

        int rise() {
            mode = FLYING;
            height = LAUNCH_HEIGHT;
            flightTime = 0;
            launches++;
            return launches;
        }

        int lengthen(int meters) {
            tether += meters;
            return tether;
        }

        int shorten(int meters) {
            tether = Math.max(tether - meters, 0);
            height = Math.min(height, tether);
            landOnGround();
            return tether;
        }

        int renewBridle(int newLimit, int newEndurance) {
            int oldWear = wear;
            limit = newLimit;
            endurance = newEndurance;
            wear = 0;
            return oldWear;
        }

        int searchAt(int place) {
            searches++;
            int difference = Math.abs(place - distance);
            boolean silent = beacon < 1;
            if (difference <= (silent ? SILENT_REACH : BEACON_REACH)) {
                mode = LANDED;
                beacon = 0;
                return 0;
            }
            return silent ? -1 : difference / BEACON_REACH;
        }
    }

    /** The gust buffer: a ring, so that a full one loses its oldest wind without moving the others. */
    private static final class WindBuffer {
        private final int[] winds = new int[WINDS_SIZE];
        private int oldest = 0;
        private int count = 0;

        void empty() {
            oldest = 0;
            count = 0;
        }

        void copyFrom(WindBuffer other) {
            copyRow(other.winds, winds);
            oldest = other.oldest;
            count = other.count;
        }

        void add(int wind) {
            putAt(winds, (oldest + count) % WINDS_SIZE, wind);
            if (count < WINDS_SIZE) {
                count++;
            } else {
                oldest = (oldest + 1) % WINDS_SIZE;
            }
        }

        boolean has(int index) {
            return index >= 0 && index < count;
        }

        int at(int index) {
            return valueAt(winds, (oldest + index) % WINDS_SIZE);
        }

        int greatest() {
            int greatest = 0;
            for (int i = 0; i < count; i++) {
                greatest = Math.max(greatest, at(i));
            }
            return greatest;
        }

        int sum() {
            int sum = 0;
            for (int i = 0; i < count; i++) {
                sum += at(i);
            }
            return sum;
        }
    }

    /** The logger or the archive: a ring of samples, the oldest one first. */
    private static final class Samples {
        private final int size;
        private final int[] ticks;
        private final int[] heights;
        private final int[] gusts;
        private int oldest = 0;
        private int count = 0;
        private int dropped = 0;

        Samples(int wantedSize) {
            size = Math.max(wantedSize, 1);
            ticks = new int[size];
            heights = new int[size];
            gusts = new int[size];
        }

        void setUp() {
            empty();
            dropped = 0;
        }

        void empty() {
            oldest = 0;
            count = 0;
        }

        void copyFrom(Samples other) {
            copyRow(other.ticks, ticks);
            copyRow(other.heights, heights);
            copyRow(other.gusts, gusts);
            oldest = other.oldest;
            count = other.count;
            dropped = other.dropped;
        }

        void add(int tick, int height, int gust) {
            int place = placeOf(count);
            putAt(ticks, place, tick);
            putAt(heights, place, height);
            putAt(gusts, place, gust);
            if (count < size) {
                count++;
            } else {
                oldest = placeOf(1);
                dropped++;
            }
        }

        private int placeOf(int sample) {
            return size > 0 ? (oldest + sample) % size : 0;
        }

        boolean has(int sample) {
            return sample >= 0 && sample < count;
        }

        int tickAt(int sample) {
            return valueAt(ticks, placeOf(sample));
        }

        int heightAt(int sample) {
            return valueAt(heights, placeOf(sample));
        }

        int gustAt(int sample) {
            return valueAt(gusts, placeOf(sample));
        }

        int countBetween(int low, int high) {
            int found = 0;
            for (int i = 0; i < count; i++) {
                if (!isOutside(heightAt(i), low, high)) {
                    found++;
                }
            }
            return found;
        }

        int gustsBetween(int low, int high) {
            int sum = 0;
            for (int i = 0; i < count; i++) {
                if (!isOutside(heightAt(i), low, high)) {
                    sum += gustAt(i);
                }
            }
            return sum;
        }

        int highest() {
            int best = -1;
            for (int i = 0; i < count; i++) {
                if (best < 0 || heightAt(i) > heightAt(best)) {
                    best = i;
                }
            }
            return best;
        }

        int lastUntil(int tick) {
            for (int i = count - 1; i >= 0; i--) {
                if (tickAt(i) <= tick) {
                    return i;
                }
            }
            return -1;
        }

        int misplaced() {
            int found = 0;
            for (int i = 1; i < count; i++) {
                if (tickAt(i) <= tickAt(i - 1)) {
                    found++;
                }
            }
            return found;
        }
    }

    /** All that a change changes, an undo takes back and a snapshot keeps. */
    private static final class Station {
        private final Kite kite = new Kite();
        private final int[] gusts = new int[PATTERN_SIZE];
        private int gustCount = 0;
        private final WindBuffer winds = new WindBuffer();
        private final Samples logger = new Samples(LOGGER_SIZE);
        private final Samples archive = new Samples(ARCHIVE_SIZE);
        private int interval = 1;
        private int tick = 0;
        private int made = 0;

        void setUp(StationPlan plan) {
            kite.setUp(plan.area, plan.limit, plan.endurance);
            copyRow(plan.gusts, gusts);
            gustCount = plan.gustCount;
            winds.empty();
            logger.setUp();
            archive.setUp();
            interval = plan.interval;
            tick = 0;
            made = 0;
        }

        void copyFrom(Station other) {
            kite.copyFrom(other.kite);
            copyRow(other.gusts, gusts);
            gustCount = other.gustCount;
            winds.copyFrom(other.winds);
            logger.copyFrom(other.logger);
            archive.copyFrom(other.archive);
            interval = other.interval;
            tick = other.tick;
            made = other.made;
        }

        int gustOf(int ofTick) {
            return gustCount > 0 ? valueAt(gusts, ofTick % gustCount) : 0;
        }

        int greatestGust() {
            int greatest = 0;
            for (int i = 0; i < gustCount; i++) {
                greatest = Math.max(greatest, valueAt(gusts, i));
            }
            return greatest;
        }

        int obstacle() {
            if (kite.mode == FLYING) {
                return 1;
            }
            if (kite.mode == FALLEN) {
                return 2;
            }
            if (kite.tether < LAUNCH_HEIGHT) {
                return 3;
            }
            return gustOf(tick) < LIFTING_WIND ? 4 : 0;
        }

        int faultOf(int command, int first, int second) {
            if (hasBadNumber(command, first, second)) {
                return ARGUMENT_FAULT;
            }
            return isForbidden(command, first) ? STATE_FAULT : NO_FAULT;
        }

        private static boolean hasBadNumber(int command, int first, int second) {
            switch (command) {
                case OUT:
                case IN:
                    return isOutside(first, 1, MAX_METERS);
                case BRIDLE:
                    return isOutside(first, 1, MAX_LIMIT) || isOutside(second, 1, MAX_ENDURANCE);
                case EVERY:
                    return isOutside(first, 1, MAX_INTERVAL);
                case SEARCH:
                    return isOutside(first, 0, MAX_DISTANCE);
                case WAIT:
                    return isOutside(first, 1, MAX_WAIT);
                default:
                    return false;
            }
        }

        private boolean isForbidden(int command, int first) {
            switch (command) {
                case LAUNCH:
                    return obstacle() != 0;
                case OUT:
                    return kite.mode == FALLEN || kite.tether + first > MAX_TETHER;
                case IN:
                    return kite.mode == FALLEN;
                case BRIDLE:
                    return kite.mode != LANDED;
                case SEARCH:
                    return kite.mode != FALLEN;
                case ARCHIVE:
                    return kite.mode != LANDED || archive.count + logger.count > ARCHIVE_SIZE;
                case WAIT:
                    return tick + first > TICK_COUNT;
                default:
                    return false;
            }
        }

        int perform(int command, int first, int second) {
            switch (command) {
                case LAUNCH:
                    winds.empty();
                    return kite.rise();
                case OUT:
                    return kite.lengthen(first);
                case IN:
                    return kite.shorten(first);
                case BRIDLE:
                    return kite.renewBridle(first, second);
                case EVERY:
                    return changeInterval(first);
                case SEARCH:
                    return kite.searchAt(first);
                case ARCHIVE:
                    return moveSamples();
                case WAIT:
                    return passMany(first);
                default:
                    return 0;
            }
        }

        private int changeInterval(int ticks) {
            int before = interval;
            interval = ticks;
            return before;
        }

        private int moveSamples() {
            int moved = logger.count;
            for (int i = 0; i < moved; i++) {
                archive.add(logger.tickAt(i), logger.heightAt(i), logger.gustAt(i));
            }
            logger.empty();
            return moved;
        }

        private int passMany(int ticks) {
            int madeBefore = made;
            for (int i = 0; i < ticks; i++) {
                passOne();
            }
            return made - madeBefore;
        }

        private void passOne() {
            int gust = gustOf(tick);
            if (kite.mode == FLYING) {
                winds.add(kite.windOver(gust));
            }
            kite.passTick(gust);
            if (kite.mode == FLYING && interval > 0 && kite.flightTime % interval == 0) {
                logger.add(tick, kite.height, winds.greatest());
                made++;
            }
            tick++;
        }
    }

    /** The stations before the latest changes: a ring that loses the oldest one. */
    private static final class History {
        private final Station[] stations = new Station[HISTORY_SIZE];
        private int next = 0;
        private int count = 0;

        History() {
            for (int i = 0; i < stations.length; i++) {
                stations[i] = new Station();
            }
        }

        void forget() {
            next = 0;
            count = 0;
        }

        void remember(Station station) {
            Station place = placeAt(next);
            if (place != null) {
                place.copyFrom(station);
            }
            next = (next + 1) % HISTORY_SIZE;
            count = Math.min(count + 1, HISTORY_SIZE);
        }

        void takeBack(Station station) {
            next = (next + HISTORY_SIZE - 1) % HISTORY_SIZE;
            count = Math.max(count - 1, 0);
            Station place = placeAt(next);
            if (place != null) {
                station.copyFrom(place);
            }
        }

        private Station placeAt(int index) {
            return index >= 0 && index < stations.length ? stations[index] : null;
        }
    }

    /** The input buffer, the tokens of the text in it, and the latest parse error. */
    private static final class TextReader {
        private static final int END = 0;
        private static final int WORD = 1;
        private static final int NUMBER = 2;
        private static final int SEMICOLON = 3;
        private static final int OPEN = 4;
        private static final int CLOSE = 5;
        private static final int INVALID = 6;
        // Above every range of the grammars, and far below an overflow.
        private static final int HUGE = 1000000;

        private final byte[] bytes = new byte[INPUT_SIZE];
        private int filled = 0;
        private int end = 0;
        private int kind = END;
        private int start = 0;
        private int next = 0;
        private int number = 0;
        private int taken = 0;
        private int errorCode = 0;
        private int errorOffset = -1;

        boolean hasRoomFor(int more) {
            return filled + more <= INPUT_SIZE;
        }

        void appendFour(int four) {
            for (int shift = 24; shift >= 0; shift -= 8) {
                if (filled >= 0 && filled < bytes.length) {
                    bytes[filled] = (byte) (four >>> shift);
                    filled++;
                }
            }
        }

        void begin(int length) {
            end = length;
            next = 0;
            errorCode = 0;
            errorOffset = -1;
            advance();
        }

        private int byteAt(int index) {
            return index >= 0 && index < end && index < bytes.length ? bytes[index] & 255 : -1;
        }

        private static boolean isBlank(int sign) {
            return sign == 32 || sign == 10;
        }

        void advance() {
            while (next < end && isBlank(byteAt(next))) {
                next++;
            }
            start = next;
            kind = kindOf(byteAt(start));
            if (kind == WORD) {
                while (next < end && kindOf(byteAt(next)) == WORD) {
                    next++;
                }
            } else if (kind == NUMBER) {
                number = 0;
                while (next < end && kindOf(byteAt(next)) == NUMBER) {
                    number = Math.min(number * 10 + byteAt(next) - '0', HUGE);
                    next++;
                }
            } else if (kind != END) {
                next++;
            }
        }

        private static int kindOf(int sign) {
            if (sign >= 'a' && sign <= 'z') {
                return WORD;
            }
            if (sign >= '0' && sign <= '9') {
                return NUMBER;
            }
            switch (sign) {
                case -1:
                    return END;
                case ';':
                    return SEMICOLON;
                case '(':
                    return OPEN;
                case ')':
                    return CLOSE;
                default:
                    return INVALID;
            }
        }

        boolean isAtWord(String word) {
            if (kind != WORD || next - start != word.length()) {
                return false;
            }
            for (int i = 0; i < word.length(); i++) {
                if (byteAt(start + i) != word.charAt(i)) {
                    return false;
                }
            }
            return true;
        }

        // Answers false, so that a parser stops at the token that it calls wrong.
        boolean fail(int code) {
            errorCode = code;
            errorOffset = start;
            return false;
        }

        boolean takeWord(String word) {
            if (!isAtWord(word)) {
                return fail(NOT_ALLOWED);
            }
            advance();
            return true;
        }

        boolean takeSign(int wanted) {
            if (kind != wanted) {
                return fail(NOT_ALLOWED);
            }
            advance();
            return true;
        }

        boolean checkNumber(int low, int high) {
            if (kind != NUMBER) {
                return fail(NOT_ALLOWED);
            }
            return !isOutside(number, low, high) || fail(OUT_OF_RANGE);
        }

        // Keeps the value in taken, as the next token may be a number too.
        boolean takeNumber(int low, int high) {
            if (!checkNumber(low, high)) {
                return false;
            }
            taken = number;
            advance();
            return true;
        }
    }

    /** What a station's text says; at first the station of a new object. */
    private static final class StationPlan {
        private int area = 2;
        private int limit = 40;
        private int endurance = 100;
        private int interval = 3;
        private final int[] gusts = new int[PATTERN_SIZE];
        private int gustCount = FIRST_GUSTS.length;

        StationPlan() {
            copyRow(FIRST_GUSTS, gusts);
        }

        boolean read(TextReader text, int length) {
            text.begin(length);
            return readKite(text) && readGusts(text) && readInterval(text) && text.takeSign(TextReader.END);
        }

        private boolean readKite(TextReader text) {
            if (!text.takeWord("kite") || !text.takeNumber(1, MAX_AREA)) {
                return false;
            }
            area = text.taken;
            if (!text.takeNumber(1, MAX_LIMIT)) {
                return false;
            }
            limit = text.taken;
            if (!text.takeNumber(1, MAX_ENDURANCE)) {
                return false;
            }
            endurance = text.taken;
            return text.takeSign(TextReader.SEMICOLON);
        }

        private boolean readGusts(TextReader text) {
            if (!text.takeWord("gusts")) {
                return false;
            }
            gustCount = 0;
            for (int i = 0; i <= PATTERN_SIZE && (i == 0 || text.kind == TextReader.NUMBER); i++) {
                // The range comes before the number of gusts, as code 2 comes before code 3.
                if (!text.checkNumber(0, MAX_GUST)) {
                    return false;
                }
                if (i == PATTERN_SIZE) {
                    return text.fail(TOO_MANY);
                }
                putAt(gusts, i, text.number);
                gustCount = i + 1;
                text.advance();
            }
            return text.takeSign(TextReader.SEMICOLON);
        }

        private boolean readInterval(TextReader text) {
            if (!text.takeWord("interval") || !text.takeNumber(1, MAX_INTERVAL)) {
                return false;
            }
            interval = text.taken;
            return text.takeSign(TextReader.SEMICOLON);
        }
    }

    /** A script: its commands in the order of the text, each with the place behind all that is inside it. */
    private static final class Script {
        private final int[] commands = new int[SCRIPT_SIZE];
        private final int[] firsts = new int[SCRIPT_SIZE];
        private final int[] seconds = new int[SCRIPT_SIZE];
        private final int[] ends = new int[SCRIPT_SIZE];
        private int count = 0;
        private int executed = 0;

        boolean read(TextReader text, int length) {
            count = 0;
            executed = 0;
            text.begin(length);
            return readBlock(text, 0) && text.takeSign(TextReader.END);
        }

        private boolean readBlock(TextReader text, int depth) {
            if (depth > SCRIPT_DEPTH) {
                return false;
            }
            for (int i = 0; i <= SCRIPT_SIZE && text.kind == TextReader.WORD; i++) {
                if (!readCommand(text, depth) || !text.takeSign(TextReader.SEMICOLON)) {
                    return false;
                }
            }
            return true;
        }

        private boolean readCommand(TextReader text, int depth) {
            int command = commandAt(text);
            if (command == NO_COMMAND) {
                return text.fail(NOT_ALLOWED);
            }
            if (count >= SCRIPT_SIZE || (command == REPEAT && depth >= SCRIPT_DEPTH)) {
                return text.fail(TOO_MANY);
            }
            int index = count;
            count++;
            putAt(commands, index, command);
            text.advance();
            if (!readNumbers(text, index, command)) {
                return false;
            }
            if (command == REPEAT && !readBody(text, depth + 1)) {
                return false;
            }
            putAt(ends, index, count);
            return true;
        }

        private boolean readBody(TextReader text, int depth) {
            return text.takeSign(TextReader.OPEN) && readBlock(text, depth) && text.takeSign(TextReader.CLOSE);
        }

        private boolean readNumbers(TextReader text, int index, int command) {
            boolean good = true;
            switch (command) {
                case OUT:
                case IN:
                    good = text.takeNumber(1, MAX_METERS);
                    break;
                case BRIDLE:
                    good = text.takeNumber(1, MAX_LIMIT);
                    break;
                case EVERY:
                    good = text.takeNumber(1, MAX_INTERVAL);
                    break;
                case SEARCH:
                    good = text.takeNumber(0, MAX_DISTANCE);
                    break;
                case WAIT:
                    good = text.takeNumber(1, MAX_WAIT);
                    break;
                case REPEAT:
                    good = text.takeNumber(MIN_TIMES, MAX_TIMES);
                    break;
                default:
                    break;
            }
            putAt(firsts, index, text.taken);
            if (good && command == BRIDLE) {
                good = text.takeNumber(1, MAX_ENDURANCE);
                putAt(seconds, index, text.taken);
            }
            return good;
        }

        private static int commandAt(TextReader text) {
            for (int command = LAUNCH; command <= REPEAT; command++) {
                if (text.isAtWord(wordOf(command))) {
                    return command;
                }
            }
            return NO_COMMAND;
        }

        private static String wordOf(int command) {
            switch (command) {
                case LAUNCH:
                    return "launch";
                case OUT:
                    return "out";
                case IN:
                    return "in";
                case BRIDLE:
                    return "bridle";
                case EVERY:
                    return "every";
                case SEARCH:
                    return "search";
                case ARCHIVE:
                    return "archive";
                case WAIT:
                    return "wait";
                case REPEAT:
                    return "repeat";
                default:
                    return "";
            }
        }

        // Answers false if a command was refused, so that the blocks around this one stop too.
        private static boolean runBlock(Script script, Station station, int from, int to, int depth) {
            if (depth > SCRIPT_DEPTH) {
                return false;
            }
            int index = from;
            for (int steps = 0; steps < SCRIPT_SIZE && index < to; steps++) {
                int command = valueAt(script.commands, index);
                int first = valueAt(script.firsts, index);
                int second = valueAt(script.seconds, index);
                int end = valueAt(script.ends, index);
                if (command == REPEAT) {
                    for (int round = 0; round < first; round++) {
                        if (!runBlock(script, station, index + 1, end, depth + 1)) {
                            return false;
                        }
                    }
                } else if (station.faultOf(command, first, second) != NO_FAULT) {
                    return false;
                } else {
                    station.perform(command, first, second);
                    script.executed++;
                }
                index = end;
            }
            return true;
        }
    }

    /** The bytes that were written last. */
    private static final class Output {
        private final byte[] bytes = new byte[OUTPUT_SIZE];
        private int length = 0;

        int at(int index) {
            return index >= 0 && index < bytes.length ? bytes[index] : 0;
        }

        int writeSamples(Samples samples) {
            length = 0;
            for (int i = 0; i < samples.count; i++) {
                if (i > 0) {
                    addSign(' ');
                }
                addNumber(samples.tickAt(i));
                addSign('@');
                addNumber(samples.heightAt(i));
                addSign(',');
                addNumber(samples.gustAt(i));
            }
            return length;
        }

        private void addNumber(int value) {
            boolean begun = false;
            for (int place = 1000; place > 0; place /= 10) {
                int digit = value / place % 10;
                if (digit > 0 || begun || place == 1) {
                    addSign((char) ('0' + digit));
                    begun = true;
                }
            }
        }

        private void addSign(char sign) {
            if (length >= 0 && length < bytes.length) {
                bytes[length] = (byte) sign;
                length++;
            }
        }
    }
}
