import java.util.ArrayList;
import java.util.List;

/** All that can be seen of an object by calls that change nothing, a line for each answer. */
final class Sight {
    private final List<String> lines = new ArrayList<>();
    private final KiteLogger x;

    private Sight(KiteLogger x) {
        this.x = x;
    }

    static List<String> of(KiteLogger x) {
        Sight sight = new Sight(x);
        sight.lookAtText();
        sight.lookAtWind();
        sight.lookAtKite();
        sight.lookAtSamples();
        sight.lookAtArchive();
        sight.lookAhead();
        return sight.lines;
    }

    /** Compares two sights and names the first answer that differs. */
    static void same(String what, List<String> due, List<String> seen) {
        for (int i = 0; i < due.size() && i < seen.size(); i++) {
            if (!due.get(i).equals(seen.get(i))) {
                Check.same(what, due.get(i), seen.get(i));
                return;
            }
        }
        Check.same(what, due.size(), seen.size());
    }

    private void add(String what, Check.Call call) {
        lines.add(what + " = " + Check.answer(call));
    }

    private void lookAtText() {
        add("errorCode", x::errorCode);
        add("errorOffset", x::errorOffset);
        add("undoableCount", x::undoableCount);
        for (int i = 0; i < 360; i++) {
            int index = i;
            add("outputByte " + i, () -> x.outputByte(index));
        }
    }

    private void lookAtWind() {
        add("tick", x::tick);
        add("patternLength", x::patternLength);
        for (int i = 0; i < 16; i++) {
            int index = i;
            add("gust " + i, () -> x.gust(index));
        }
        add("windAt 0", () -> x.windAt(0));
        add("windAt 600", () -> x.windAt(600));
        add("bufferSize", x::bufferSize);
        for (int i = 0; i < 9; i++) {
            int index = i;
            add("bufferedWind " + i, () -> x.bufferedWind(index));
        }
        add("greatestWind", x::greatestWind);
        add("meanWind", x::meanWind);
    }

    private void lookAtKite() {
        add("isLanded", x::isLanded);
        add("isFlying", x::isFlying);
        add("isFallen", x::isFallen);
        add("height", x::height);
        add("tether", x::tether);
        add("area", x::area);
        add("limit", x::limit);
        add("endurance", x::endurance);
        add("wear", x::wear);
        add("loadOf 36", () -> x.loadOf(36));
        add("flightTime", x::flightTime);
        add("beaconTime", x::beaconTime);
        add("launches", x::launches);
        add("snaps", x::snaps);
        add("searches", x::searches);
    }

    private void lookAtSamples() {
        add("interval", x::interval);
        add("loggedCount", x::loggedCount);
        for (int i = 0; i <= x.loggedCount(); i++) {
            int index = i;
            add("loggedTick " + i, () -> x.loggedTick(index));
            add("loggedHeight " + i, () -> x.loggedHeight(index));
            add("loggedGust " + i, () -> x.loggedGust(index));
        }
        add("droppedCount", x::droppedCount);
        add("gap", x::gap);
    }

    private void lookAtArchive() {
        add("archivedCount", x::archivedCount);
        for (int i = 0; i <= x.archivedCount(); i++) {
            int index = i;
            add("archivedTick " + i, () -> x.archivedTick(index));
            add("archivedHeight " + i, () -> x.archivedHeight(index));
            add("archivedGust " + i, () -> x.archivedGust(index));
        }
        add("archivedBetween 20 50", () -> x.archivedBetween(20, 50));
        add("highestArchived", x::highestArchived);
        add("archivedBefore 10", () -> x.archivedBefore(10));
        for (int i = 0; i < 7; i++) {
            int layer = i;
            add("meanGust " + i, () -> x.meanGust(layer));
        }
        add("archivedShare", x::archivedShare);
    }

    private void lookAhead() {
        add("launchObstacle", x::launchObstacle);
        for (int i = 0; i <= 100; i++) {
            int ticks = i;
            add("heightAfter " + i, () -> x.heightAfter(ticks));
        }
        add("ticksToSnap", x::ticksToSnap);
        add("safeHeight", x::safeHeight);
    }
}
