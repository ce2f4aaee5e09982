/** The examples of README.md; whoever changes them there changes them here. */
public final class ReadmeTest {
    public static void main(String[] args) {
        firstFlight();
        texts();
        Check.end();
    }

    private static void firstFlight() {
        KiteLogger x = new KiteLogger();
        x.payOut(150);
        x.launch();
        Check.same("the samples that were made", 8, x.passTicks(24));
        x.reelIn(200);
        Check.same("the kite is landed", true, x.isLanded());
        Check.same("archive", 8, x.archive());
    }

    private static int append(KiteLogger x, String text) {
        int[] n = new int[(text.length() + 19) / 20 * 5];
        for (int i = 0; i < text.length(); i++) {
            n[i / 4] |= text.charAt(i) << 24 - i % 4 * 8;
        }
        for (int i = 0; i < n.length; i += 5) {
            x.appendText(n[i], n[i + 1], n[i + 2], n[i + 3], n[i + 4]);
        }
        return text.length();
    }

    private static void texts() {
        KiteLogger x = new KiteLogger();
        Check.same("the length of the pattern", 2, x.loadStation(append(x, "kite 1 999 9999;gusts 10 7;interval 2;")));
        Check.same("the executed commands", 5, x.runScript(append(x, "out 200;launch;repeat 2(wait 7;);in 200;")));
        Check.same("the bytes of the output", 59, x.writeLogger());
        String text = Check.output(x, 59);
        Check.same("the first samples", "1@27,10 3@44,10 ", text.substring(0, 16));
        Check.same("the last sample", " 13@132,11", text.substring(49));
        Check.same("a script with an error", -1, x.runScript(append(x, "archive;out 201;")));
        Check.same("nothing was executed", 0, x.archivedCount());
        Check.same("the code", 2, x.errorCode());
        Check.same("the offset", 12, x.errorOffset());
    }
}
