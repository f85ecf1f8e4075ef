import java.util.ArrayList;
import java.util.List;

/**
 * Long runs of calls, drawn by a rule of its own that always draws the same: after each call
 * UnheardBells must answer as PlainBells does. Among the arguments are those far out of range.
 */
public final class RandomRunsTest {
    private static final Due due = new Due("RandomRunsTest");
    private static final int RUNS = 600;
    private static final int CALLS = 512;
    // A last text of some 60 characters, and all that is looked at behind it.
    private static final int LATER_CALLS = 130;
    private static final int[] STRANGE = {Integer.MIN_VALUE, Integer.MAX_VALUE, -1, 12, 24, 1 << 16, -1000};
    private static final String KINDS = "rvspppppcnnnhhoe";
    private static final String SIGNS = "rvspcnhoe0123456789;:@*+-x ";

    private long seed;
    private final UnheardBells x = new UnheardBells();
    private final PlainBells plain = new PlainBells();
    private final List<String> calls = new ArrayList<>();
    private final int style;

    private RandomRunsTest(int run) {
        seed = run * 7919L + 17;
        style = run % 4;
    }

    public static void main(String[] args) {
        for (int run = 0; run < RUNS && due.isAllRight(); run++) {
            new RandomRunsTest(run).play(run);
        }
        due.end();
    }

    private int below(int bound) {
        seed = seed * 6364136223846793005L + 1442695040888963407L;
        return (int) ((seed >>> 33) % bound);
    }

    /** Mostly from 0 to the bound, sometimes far out of range. */
    private int some(int bound) {
        return below(20) == 0 ? STRANGE[below(STRANGE.length)] : below(bound + 1);
    }

    private void play(int run) {
        int done = 0;
        while (done < CALLS - LATER_CALLS) {
            int before = calls.size();
            step();
            done += calls.size() - before;
        }
        hold("isBalanced()", x.isBalanced(), 1);
        lookAtAll();
        due.that("an object is used for " + CALLS + " calls at most", calls.size() <= CALLS);
        if (!due.isAllRight()) {
            System.out.println("run " + run + ": " + calls);
        }
    }

    private void hold(String call, long got, long want) {
        calls.add(call);
        due.is(call, got, want);
    }

    private void step() {
        int kind = below(100);
        if (kind < 55) {
            change(kind);
        } else if (kind < 60) {
            text();
        } else if (kind < 64) {
            back();
        } else {
            look(below(20));
        }
    }

    private void change(int kind) {
        int rope = some(style == 0 ? 1 : 11);
        int parish = some(3);
        int hour = Math.min(plain.account(2), 23) + below(style == 1 ? 2 : 5) - (below(9) == 0 ? 1 : 0);
        int strength = some(style == 2 ? 9 : 8) + 1;
        int flag = some(1);
        if (kind < 5) {
            hold("rope(" + parish + ")", x.rope(parish), plain.rope(parish));
        } else if (kind < 9) {
            hold("move(" + rope + ", " + parish + ")", x.move(rope, parish), plain.move(rope, parish));
        } else if (kind < 12) {
            hold("sensor(" + rope + ", " + flag + ")", x.sensor(rope, flag), plain.sensor(rope, flag));
        } else if (kind < 15) {
            hold("oil(" + rope + ", " + strength + ")", x.oil(rope, strength), plain.oil(rope, strength));
        } else if (kind < 38) {
            int any = below(30) == 0 ? some(23) : hour;
            String call = "pull(" + rope + ", " + any + ", " + strength + ")";
            hold(call, x.pull(rope, any, strength), plain.pull(rope, any, strength));
        } else if (kind < 40) {
            hold("cancel(" + rope + ")", x.cancel(rope), plain.cancel(rope));
        } else if (kind < 48) {
            hold("ring()", x.ring(), plain.ring());
        } else if (kind < 53) {
            hold("hour()", x.hour(), plain.hour());
        } else if (style != 3 || below(4) == 0) {
            hold("end()", x.end(), plain.end());
        }
    }

    private void back() {
        int kind = below(8);
        if (kind < 5) {
            hold("undo()", x.undo(), plain.undo());
        } else if (kind < 7) {
            hold("save()", x.save(), plain.save());
        } else {
            hold("restore()", x.restore(), plain.restore());
        }
    }

    private void text() {
        StringBuilder text = new StringBuilder();
        int orders = below(6);
        for (int order = 0; order <= orders; order++) {
            text.append(order > 0 ? ";" : "").append(order());
        }
        if (below(4) == 0) {
            int place = below(text.length() + 1);
            text.insert(place, SIGNS.charAt(below(SIGNS.length())));
        }
        if (below(4) == 0) {
            text.deleteCharAt(below(text.length()));
        }
        for (char sign : text.toString().toCharArray()) {
            hold("append('" + sign + "')", x.append(sign), plain.append(sign));
        }
        if (below(10) == 0) {
            int code = some(140);
            hold("append(" + code + ")", x.append(code), plain.append(code));
        }
        if (below(10) > 0) {
            hold("run()", x.run(), plain.run());
        }
        hold("reason(false)", x.reason(false), plain.reason(false));
        hold("reason(true)", x.reason(true), plain.reason(true));
    }

    private String order() {
        char kind = KINDS.charAt(below(KINDS.length()));
        int rope = below(plain.account(0) + (below(6) == 0 ? 2 : 1));
        int hour = plain.account(2) + below(3);
        String number = below(5) == 0 && rope < 10 ? "0" + rope : "" + rope;
        switch (kind) {
            case 'r':
                return "r" + below(below(6) == 0 ? 10 : 4);
            case 'v':
                return "v" + number + ":" + below(4);
            case 's':
                return "s" + number + (below(2) == 0 ? "+" : "-");
            case 'p':
                return "p" + number + "@" + hour + "*" + below(10);
            case 'c':
                return "c" + number;
            case 'o':
                return "o" + number + "-" + below(4);
            default:
                return "" + kind;
        }
    }

    private void look(int kind) {
        int rope = some(11);
        int place = some(19);
        int hour = some(23);
        int what = some(7);
        switch (kind) {
            case 0:
                hold("ropeOf(" + rope + ", " + what + ")", x.ropeOf(rope, what), plain.ropeOf(rope, what));
                break;
            case 1:
                hold("waiting(" + place + ", " + what % 4 + ")", x.waiting(place, what % 4),
                    plain.waiting(place, what % 4));
                break;
            case 2:
                hold("would(" + rope + ", " + what + ")", x.would(rope, what), plain.would(rope, what));
                break;
            case 3:
                hold("forecast()", x.forecast(), plain.forecast());
                break;
            case 4:
                hold("forecastAgain()", x.forecastAgain(), plain.forecast());
                break;
            case 5:
                hold("answerOf(" + place + ", " + what % 5 + ")", x.answerOf(place, what % 5),
                    plain.answerOf(place, what % 5));
                break;
            case 6:
                hold("answered(" + hour + ")", x.answered(hour), plain.answered(hour));
                break;
            case 7:
                hold("guess(" + hour + ")", x.guess(hour), plain.guess(hour));
                break;
            case 8:
                hold("guessAgain(" + hour + ")", x.guessAgain(hour), plain.guess(hour));
                break;
            case 9:
                hold("parishOf(" + place % 5 + ", " + what + ")", x.parishOf(place % 5, what),
                    plain.parishOf(place % 5, what));
                break;
            case 10:
                hold("busiest()", x.busiest(), plain.busiest());
                break;
            case 11:
                hold("rustiest(" + rope + ")", x.rustiest(rope), plain.rustiest(rope));
                break;
            case 12:
                hold("ranked(" + place % 6 + ")", x.ranked(place % 6), plain.ranked(place % 6));
                break;
            case 13:
                hold("tell(" + rope + ")", x.tell(rope), plain.tell(rope));
                break;
            case 14:
                hold("tellDay()", x.tellDay(), plain.tellDay());
                break;
            case 15:
                hold("character(" + hour + ")", x.character(hour), plain.character(hour));
                break;
            case 16:
                hold("account(" + place + ")", x.account(place), plain.account(place));
                break;
            case 17:
                due.same("meanRust()", x.meanRust(), plain.meanRust());
                calls.add("meanRust()");
                break;
            case 18:
                due.same("answerShare()", x.answerShare(), plain.answerShare());
                calls.add("answerShare()");
                break;
            default:
                hold("isBalanced()", x.isBalanced(), 1);
        }
    }

    private void lookAtAll() {
        for (int what = 0; what <= 12; what++) {
            hold("account(" + what + ")", x.account(what), plain.account(what));
        }
        for (int hour = 0; hour < 24; hour++) {
            hold("guess(" + hour + ")", x.guess(hour), plain.guess(hour));
            hold("guessAgain(" + hour + ")", x.guessAgain(hour), plain.guess(hour));
        }
    }
}
