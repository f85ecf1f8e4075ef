import java.util.Arrays;

/** Holds answers against those that are due, and ends a test with exit code 1 if one is not. */
final class Due {
    static final int NONE = -1011;
    static final int BAD = -1012;
    static final int FULL = -1013;
    static final int REFUSED = -1014;
    static final int NOTHING = -1015;

    private final String test;
    private int held;
    private int wrong;

    Due(String test) {
        this.test = test;
    }

    void is(String call, long got, long want) {
        hold(got == want, call + " answered " + got + ", due is " + want);
    }

    void same(String call, double got, double want) {
        hold(Double.compare(got, want) == 0, call + " answered " + got + ", due is " + want);
    }

    void text(String call, String got, String want) {
        hold(got.equals(want), call + " answered \"" + got + "\", due is \"" + want + "\"");
    }

    /** Two pictures have the same lines; tells the first one that differs. */
    void picture(String when, String got, String want) {
        String[] gotLines = got.split("\n");
        String[] wantLines = want.split("\n");
        int line = Arrays.mismatch(gotLines, wantLines);
        boolean isIn = line >= 0 && line < Math.min(gotLines.length, wantLines.length);
        hold(line < 0, when + (isIn ? " has " + gotLines[line] + ", due is " + wantLines[line] : " has more or less"));
    }

    void that(String what, boolean isSo) {
        hold(isSo, what + " is not so");
    }

    private void hold(boolean isSo, String complaint) {
        held++;
        if (!isSo) {
            wrong++;
            System.out.println(test + ": " + complaint);
        }
    }

    /** The call was refused, for this reason and with this detail. */
    void refused(UnheardBells x, String call, int got, int reason, int detail) {
        is(call, got, REFUSED);
        is("the reason of " + call, x.reason(false), reason);
        is("the detail of " + call, x.reason(true), detail);
    }

    boolean isAllRight() {
        return wrong == 0;
    }

    int held() {
        return held;
    }

    void end() {
        System.out.println(test + ": " + held + " answers held, " + wrong + " wrong");
        if (wrong != 0 || held == 0) {
            System.exit(1);
        }
    }

    // ---- what several tests need

    static UnheardBells bells(int... parishes) {
        UnheardBells x = new UnheardBells();
        for (int parish : parishes) {
            x.rope(parish);
        }
        return x;
    }

    /** Rings a pull of a rope at an hour that is not past, with nothing else waiting. */
    static int pullAndRing(UnheardBells x, int rope, int hour, int strength) {
        x.pull(rope, hour, strength);
        return x.ring();
    }

    static void write(UnheardBells x, String text) {
        for (char sign : text.toCharArray()) {
            x.append(sign);
        }
    }

    static int runText(UnheardBells x, String text) {
        write(x, text);
        return x.run();
    }

    static String lineOf(UnheardBells x) {
        StringBuilder line = new StringBuilder();
        for (int index = 0; x.character(index) != NONE; index++) {
            line.append((char) x.character(index));
        }
        return line.toString();
    }
}
