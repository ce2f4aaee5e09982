/**
 * The boundary cases of texts ("Terms", promises 2 to 5 and 57), one method for each sentence: every byte, the two
 * ends of every range, the longest texts, texts cut at every place, and the limits of scripts.
 */
public final class TextEdgeTest {
    private static final String[][] STATION_RANGES = {
        {"kite ", "1", "4", "5", " 7 7;gusts 7;interval 7;"},
        {"kite 1 ", "1", "999", "1000", " 7;gusts 7;interval 7;"},
        {"kite 1 7 ", "1", "9999", "10000", ";gusts 7;interval 7;"},
        {"kite 1 7 7;gusts ", "0", "30", "31", ";interval 7;"},
        {"kite 1 7 7;gusts 7 7 ", "0", "30", "31", " 7;interval 7;"},
        {"kite 1 7 7;gusts 7;interval ", "1", "20", "21", ";"},
    };
    private static final String[][] SCRIPT_RANGES = {
        {"out ", "1", "200", "201", ";"},
        {"in ", "1", "200", "201", ";"},
        {"bridle ", "1", "999", "1000", " 7;"},
        {"bridle 7 ", "1", "9999", "10000", ";"},
        {"every ", "1", "20", "21", ";"},
        {"search ", "0", "2200", "2201", ";"},
        {"wait ", "1", "60", "61", ";"},
        {"repeat ", "2", "5", "6", "();"},
        {"repeat 2(out ", "1", "200", "201", ";);"},
        {"repeat 2(repeat ", "2", "5", "6", "(););"},
    };
    private static final String STATION = "kite 3 40 100;gusts 10 11 12;interval 15;";

    public static void main(String[] args) {
        everyByteInAScript();
        everyByteInAStation();
        blanks();
        ranges();
        numbersOfAnyLength();
        missingWords();
        patternLengths();
        stationCutAnywhere();
        scriptCutAnywhere();
        bytesBehindTheText();
        fullBuffer();
        scriptOfTwentyCommands();
        depthOfRepeats();
        smallestCodeFirst();
        errorBeforeTheFirstCommand();
        codeAfterEachCall();
        Check.end();
    }

    private static void script(String text, int code, int offset) {
        KiteLogger x = new KiteLogger();
        Check.same("57: fails or not: " + text, code != 0, Check.run(x, text) < 0);
        error(x, text, code, offset);
    }

    private static void station(String text, int code, int offset) {
        KiteLogger x = new KiteLogger();
        Check.same("3: fails or not: " + text, code != 0, Check.load(x, text) < 0);
        error(x, text, code, offset);
    }

    private static void error(KiteLogger x, String text, int code, int offset) {
        Check.same("4: code of " + text, code, x.errorCode());
        Check.same("5: offset of " + text, offset, x.errorOffset());
    }

    private static boolean isBlank(char sign) {
        return sign == ' ' || sign == '\n';
    }

    private static boolean isDigit(char sign) {
        return "0123456789".indexOf(sign) >= 0;
    }

    private static boolean isLetter(char sign) {
        return "abcdefghijklmnopqrstuvwxyz".indexOf(sign) >= 0;
    }

    /** "Spaces and line feeds separate tokens and have no other meaning. Every other byte is an invalid token." */
    private static void everyByteInAScript() {
        for (char sign = 0; sign < 256; sign++) {
            script(sign + "launch;", isBlank(sign) ? 0 : 1, isBlank(sign) ? -1 : 0);
            script("launch" + sign + ";", isBlank(sign) ? 0 : 1, isBlank(sign) ? -1 : isLetter(sign) ? 0 : sign == ';' ? 7 : 6);
            boolean good = isBlank(sign) || isDigit(sign);
            script("wait 1" + sign + ";", good ? 0 : 1, good ? -1 : sign == ';' ? 7 : 6);
            boolean ends = isBlank(sign);
            script("launch;" + sign, ends ? 0 : 1, ends ? -1 : 7);
        }
    }

    private static void everyByteInAStation() {
        for (char sign = 0; sign < 256; sign++) {
            boolean good = isBlank(sign) || isDigit(sign);
            station("kite 1 1 1;gusts 1" + sign + ";interval 1;", good ? 0 : 1, good ? -1 : sign == ';' ? 19 : 18);
            station(sign + "kite 1 1 1;gusts 1;interval 1;", isBlank(sign) ? 0 : 1, isBlank(sign) ? -1 : 0);
            station("kite 1 1 1;gusts 1;interval 1;" + sign, isBlank(sign) ? 0 : 1, isBlank(sign) ? -1 : 30);
        }
    }

    private static void blanks() {
        station("ki te 1 1 1;gusts 1;interval 1;", 1, 0);
        station("kite1 1 1;gusts1;interval1;", 0, -1);
        station("kite 1 1 1 ;\ngusts\n\n1 \n ; interval\n1\n;\n", 0, -1);
        script("wait 1\n0;", 1, 7);
        script("wait\n10;", 0, -1);
        script("wait10;out5;", 0, -1);
        script("launchlaunch;", 1, 0);
        script("repeat2(launch;archive;);", 0, -1);
        script("repeat 2\n(\nlaunch ; ) ;", 0, -1);
        script("\n\n  x", 1, 4);
    }

    /** The least and the greatest number are taken, the ones beside them are code 2 at the number's first byte. */
    private static void ranges() {
        for (String[] range : STATION_RANGES) {
            station(range[0] + range[1] + range[4], 0, -1);
            station(range[0] + range[2] + range[4], 0, -1);
            station(range[0] + range[3] + range[4], 2, range[0].length());
            if (!range[1].equals("0")) {
                station(range[0] + (Integer.parseInt(range[1]) - 1) + range[4], 2, range[0].length());
            }
        }
        for (String[] range : SCRIPT_RANGES) {
            script(range[0] + range[1] + range[4], 0, -1);
            script(range[0] + range[2] + range[4], 0, -1);
            script(range[0] + range[3] + range[4], 2, range[0].length());
            if (!range[1].equals("0")) {
                script(range[0] + (Integer.parseInt(range[1]) - 1) + range[4], 2, range[0].length());
            }
        }
    }

    /** "A number is a maximal run of decimal digits of any length." */
    private static void numbersOfAnyLength() {
        for (int digits = 1; digits <= 40; digits++) {
            script("wait " + "0".repeat(digits) + ";", 2, 5);
            script("wait " + "0".repeat(digits) + "60;", 0, -1);
            script("wait " + "0".repeat(digits) + "61;", 2, 5);
            // Each of them is 1 more than a power of 2 or of 10 that a number of fixed size could lose.
            script("wait " + java.math.BigInteger.TWO.pow(8 * digits).add(java.math.BigInteger.ONE) + ";", 2, 5);
            script("wait 1" + "0".repeat(digits + 1) + "1;", 2, 5);
        }
        KiteLogger x = new KiteLogger();
        Check.same("57: leading zeros", 1, Check.run(x, "wait " + "0".repeat(490) + "7;"));
        Check.same("57: leading zeros", 7, x.tick());
    }

    private static void missingWords() {
        station("1 1 1;gusts 1;interval 1;", 1, 0);
        station("kite 1 1 1;5;interval 1;", 1, 11);
        station("kite 1 1 1;gusts 1;5;", 1, 19);
        station("gusts 1;", 1, 0);
        station("kite 1 1 1;gusts interval 1;", 1, 17);
        script("10;", 1, 0);
        script("out;", 1, 3);
        script("gusts 1;", 1, 0);
        script("meters;", 1, 0);
    }

    /** "gust { gust }": 1 to 16 numbers; none is code 1, the 17th one is code 3. */
    private static void patternLengths() {
        for (int gusts = 0; gusts <= 20; gusts++) {
            String text = "kite 1 1 1;gusts" + " 9".repeat(gusts) + ";interval 1;";
            KiteLogger x = new KiteLogger();
            Check.same("3: " + gusts + " gusts", gusts >= 1 && gusts <= 16 ? gusts : -1, Check.load(x, text));
            Check.same("7: after " + gusts + " gusts", gusts >= 1 && gusts <= 16 ? gusts : 6, x.patternLength());
            Check.same("4: after " + gusts + " gusts", gusts < 1 ? 1 : gusts > 16 ? 3 : 0, x.errorCode());
            Check.same("5: after " + gusts + " gusts", gusts < 1 ? 16 : gusts > 16 ? 49 : -1, x.errorOffset());
        }
    }

    /** "or the length of the text if the text ends too early". */
    private static void stationCutAnywhere() {
        for (int length = 0; length < STATION.length(); length++) {
            KiteLogger x = new KiteLogger();
            Check.append(x, STATION);
            Check.same("3: the first " + length, -1, x.loadStation(length));
            Check.same("4: the first " + length, 1, x.errorCode());
            int word = startOfCutWord(STATION, length);
            Check.same("5: the first " + length, word >= 0 ? word : length, x.errorOffset());
            Check.same("3: the station stays after " + length, 6, x.patternLength());
        }
        KiteLogger y = new KiteLogger();
        Check.append(y, STATION);
        Check.same("3: the whole text", 3, y.loadStation(STATION.length()));
    }

    /** A word that lost its last letters is another word, so the error is at its start. */
    private static int startOfCutWord(String text, int length) {
        int start = length;
        while (start > 0 && isLetter(text.charAt(start - 1))) {
            start--;
        }
        boolean cut = start < length && length < text.length() && isLetter(text.charAt(length));
        return cut ? start : -1;
    }

    private static void scriptCutAnywhere() {
        String text = "out 12 ;repeat 2 (wait 3; launch ; ) ; archive;";
        for (int length = 0; length <= text.length(); length++) {
            KiteLogger x = new KiteLogger();
            Check.append(x, text);
            int answer = x.runScript(length);
            // The text is whole after nothing, after each command of the outermost level, and at its end.
            boolean whole = length == 0 || length == 8 || length == 38 || length == 39 || length == text.length();
            int word = startOfCutWord(text, length);
            Check.same("57: the first " + length, whole, answer >= 0);
            Check.same("4: the first " + length, whole ? 0 : 1, x.errorCode());
            Check.same("5: the first " + length, whole ? -1 : word >= 0 ? word : length, x.errorOffset());
        }
    }

    /** "Parses the first bytes of the input buffer": what stands behind them has no meaning, and goes. */
    private static void bytesBehindTheText() {
        KiteLogger x = new KiteLogger();
        Check.append(x, "wait 11;wait 2;%%%%%%%%%%");
        Check.same("57: two commands", 2, x.runScript(15));
        Check.same("57: two commands", 13, x.tick());
        Check.same("57: the rest is gone", 20, x.appendText(0x77616974, 0x20313b77, 0, 0, 0));
        Check.same("57: the next text begins at 0", 1, x.runScript(7));
        Check.append(x, "kite 1 1 1;gusts 1;interval 12;");
        Check.same("3: the interval is cut", -1, x.loadStation(29));
        Check.same("5: a cut number is a number", 29, x.errorOffset());
        Check.append(x, "kite 1 1 1;gusts 1;interval 1;0%kite");
        Check.same("3: the rest has no meaning", 1, x.loadStation(30));
        Check.same("29: interval", 1, x.interval());
        Check.refuses("3: the rest is gone", Check.ARGUMENT, () -> x.loadStation(1));
    }

    /** "an input buffer of at most 500 bytes": its last byte is read as the others are. */
    private static void fullBuffer() {
        script(" ".repeat(493) + "launch;", 0, -1);
        script(" ".repeat(494) + "launch", 1, 500);
        script(" ".repeat(500), 0, -1);
        script(" ".repeat(499) + "x", 1, 499);
        script("9".repeat(500), 1, 0);
        script("a".repeat(500), 1, 0);
        script("wait " + "0".repeat(495), 2, 5);
        script("wait " + "0".repeat(494) + "1", 1, 500);
        script("wait " + "0".repeat(493) + "1;", 0, -1);
        script("(".repeat(500), 1, 0);
        String station = "kite 1 1 1;gusts 1;interval 1;";
        station(" ".repeat(500 - station.length()) + station, 0, -1);
        station(station + "\n".repeat(500 - station.length()), 0, -1);
        station(station + " ".repeat(499 - station.length()) + ";", 1, 499);
        KiteLogger x = new KiteLogger();
        Check.append(x, " ".repeat(500));
        Check.same("2: the buffer is full", -1, x.appendText(0x20202020, 0x20202020, 0x20202020, 0x20202020, 0x20202020));
        Check.same("2: it stays full", -1, x.appendText(0x20202020, 0x20202020, 0x20202020, 0x20202020, 0x20202020));
        Check.same("57: all 500 bytes", 0, x.runScript(500));
        Check.append(x, " ".repeat(480));
        Check.same("2: just 500 bytes", 500, x.appendText(0x20202020, 0x20202020, 0x20202020, 0x20202020, 0x20202020));
    }

    /** "A script has at most 20 commands; a repeat and the commands inside it all count for this limit." */
    private static void scriptOfTwentyCommands() {
        for (int before = 0; before <= 19; before++) {
            // A repeat with all the others inside it or behind it: 20 commands in all, then one more.
            String head = "archive;".repeat(before) + "repeat 2(";
            String inside = "archive;".repeat(19 - before);
            script(head + inside + ");", 0, -1);
            script(head + inside + "archive;);", 3, (head + inside).length());
            script(head + ");" + inside, 0, -1);
            script(head + ");" + inside + "archive;", 3, (head + ");" + inside).length());
        }
        String full = "repeat 2(" + "archive;".repeat(18) + "repeat 2(";
        script(full + "););", 0, -1);
        script(full + "archive", 3, full.length());
        script("repeat 2();".repeat(20), 0, -1);
        script("repeat 2();".repeat(20) + "repeat", 3, 220);
        KiteLogger x = new KiteLogger();
        Check.same("57: all of 18 commands 25 times", 450, Check.run(x, "repeat 5(repeat 5(" + "in 1;".repeat(18) + "););"));
    }

    /** "A repeat may be inside another repeat, but not inside two other repeats." */
    private static void depthOfRepeats() {
        script("repeat 2(repeat 3(););", 0, -1);
        script("repeat 2(repeat 3();repeat 4();repeat 5(););", 0, -1);
        script("repeat 2(repeat 3(repeat 4(););", 3, 18);
        script("repeat 2(repeat 3();repeat 4(launch;repeat 5();", 3, 36);
        script("repeat 2(repeat 3(););repeat 2(repeat 3(repeat 4(", 3, 40);
        KiteLogger x = new KiteLogger();
        Check.same("57: two deep, three behind one another", 4 + 6 + 2, Check.run(x,
            "repeat 2(repeat 2(wait 1;);repeat 3(wait 2;);wait 3;);"));
        Check.same("57: ticks", 2 * (2 + 6 + 3), x.tick());
    }

    /** "If several errors apply to the same token, the one with the smallest code is reported." */
    private static void smallestCodeFirst() {
        String sixteen = "kite 1 1 1;gusts" + " 9".repeat(16);
        station(sixteen + " 30;interval 1;", 3, 49);
        station(sixteen + " 31;interval 1;", 2, 49);
        station(sixteen + " 99999999999999999999;interval 1;", 2, 49);
        station(sixteen + " gusts;interval 1;", 1, 49);
        station(sixteen + " (", 1, 49);
        String twenty = "wait 1;".repeat(20);
        script(twenty + "wait 99;", 3, 140);
        script(twenty + "waits 1;", 1, 140);
        script(twenty + "kite 1;", 1, 140);
        script(twenty + ";", 1, 140);
        script(twenty + ")", 1, 140);
        script(twenty + "A", 1, 140);
        script("repeat 2(repeat 2(repeat 9(", 3, 18);
        script("repeat 2(repeat 2(repea 9(", 1, 18);
        script("repeat 9 9", 2, 7);
        script("wait 61 61;", 2, 5);
        script("bridle 0 0;", 2, 7);
        script("launch 61;", 1, 7);
    }

    /** "A script is parsed completely before its first command is executed." "Parsing stops at the first token ..". */
    private static void errorBeforeTheFirstCommand() {
        KiteLogger x = new KiteLogger();
        Check.same("57: an error at the end", -1, Check.run(x, "out 20;wait 3;every 5;wait 0;every 0;x"));
        Check.same("5: the first error", 27, x.errorOffset());
        Check.same("6: nothing was executed", 0, x.tick());
        Check.same("18: nothing was executed", 0, x.tether());
        Check.same("29: nothing was executed", 3, x.interval());
        Check.same("60: a parse error is not a change", 0, x.undoableCount());
        Check.same("57: an end that is missing", -1, Check.run(x, "out 20;wait 3"));
        Check.same("18: nothing was executed", 0, x.tether());
    }

    private static void codeAfterEachCall() {
        KiteLogger x = new KiteLogger();
        error(x, "no text", 0, -1);
        Check.run(x, "wait 61;");
        error(x, "a bad script", 2, 5);
        Check.load(x, "kite 4 4 4;x");
        error(x, "a bad station", 1, 11);
        Check.refuses("4: a call that throws", Check.ARGUMENT, () -> x.runScript(1));
        Check.refuses("4: a call that throws", Check.ARGUMENT, () -> x.loadStation(-1));
        error(x, "calls that throw", 1, 11);
        Check.load(x, STATION);
        error(x, "a good station", 0, -1);
        Check.run(x, "repeat 2(repeat 2(repeat 2(");
        error(x, "a deep script", 3, 18);
        x.saveSnapshot();
        x.passTicks(1);
        x.undo();
        x.restoreSnapshot();
        x.writeLogger();
        error(x, "other calls", 3, 18);
        Check.same("57: it stops at its first command", 0, Check.run(x, "launch;"));
        error(x, "a script that stops is no parse error", 0, -1);
    }
}
