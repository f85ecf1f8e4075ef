import java.util.ArrayList;
import java.util.Comparator;
import java.util.List;
import java.util.regex.Matcher;
import java.util.regex.Pattern;

/**
 * The document once more, written as plainly as the Java library allows and by other ways than
 * UnheardBells: what RandomRunsTest holds UnheardBells against. It keeps every answer, copies
 * itself for each change, and finds a fault by asking which beginnings of a text can continue.
 */
final class PlainBells {
    private static final String ORDER = "(?:r\\d|v\\d\\d?:\\d|s\\d\\d?[+-]|p\\d\\d?@\\d\\d?\\*\\d|c\\d\\d?|n|h|o\\d\\d?-\\d|e)";
    private static final Pattern TEXT = Pattern.compile(ORDER + "(?:;" + ORDER + ")*");
    private static final Pattern NUMBER = Pattern.compile("\\d+");

    private record Rope(int number, int parish, boolean isOn, int rust) {
    }

    private record Pull(int rope, int hour, int strength, int came) {
    }

    private enum Fate { ANSWERED, MISSED, DOUBLE, TAKEN, MISSED_AT_END }

    private record Past(Fate fate, int rope, int hour, int day, int strength) {
    }

    private record State(List<Rope> ropes, List<Pull> pulls, List<Past> past, int hour, int day, int came) {
        State copy() {
            return new State(new ArrayList<>(ropes), new ArrayList<>(pulls), new ArrayList<>(past), hour, day, came);
        }
    }

    private State now = new State(new ArrayList<>(), new ArrayList<>(), new ArrayList<>(), 0, 0, 0);
    private final List<State> before = new ArrayList<>();
    private State snapshot;
    private String text = "";
    private String line = "";
    private int reason = Due.NOTHING;
    private int detail = Due.NOTHING;

    private interface Change {
        int make();
    }

    private int change(Change change) {
        State old = now.copy();
        int result = change.make();
        if (result < 0) {
            now = old;
            return result;
        }
        before.add(old);
        if (before.size() > 8) {
            before.remove(0);
        }
        return result;
    }

    private int refuse(int why, int its) {
        reason = why;
        detail = its;
        return Due.REFUSED;
    }

    private boolean noRope(int rope) {
        return rope < 0 || rope >= now.ropes.size();
    }

    private static boolean out(int value, int low, int high) {
        return value < low || value > high;
    }

    private int count(Fate fate, int rope) {
        return (int) now.past.stream().filter(p -> p.fate == fate && (rope < 0 || p.rope == rope)).count();
    }

    private int rung() {
        return count(Fate.ANSWERED, -1) + count(Fate.MISSED, -1) + count(Fate.DOUBLE, -1);
    }

    // ---- ropes

    int rope(int parish) {
        return change(() -> {
            if (out(parish, 0, 3)) {
                return Due.BAD;
            }
            if (now.ropes.size() == 12) {
                return refuse(1, 12);
            }
            now.ropes.add(new Rope(now.ropes.size(), parish, true, 0));
            return now.ropes.size() - 1;
        });
    }

    int move(int rope, int parish) {
        return change(() -> {
            if (noRope(rope)) {
                return Due.NONE;
            }
            if (out(parish, 0, 3)) {
                return Due.BAD;
            }
            Rope r = now.ropes.get(rope);
            if (r.parish == parish) {
                return refuse(4, parish);
            }
            now.ropes.set(rope, new Rope(rope, parish, r.isOn, r.rust));
            return r.parish;
        });
    }

    int sensor(int rope, int isOn) {
        return change(() -> {
            if (noRope(rope)) {
                return Due.NONE;
            }
            if (out(isOn, 0, 1)) {
                return Due.BAD;
            }
            Rope r = now.ropes.get(rope);
            if (r.isOn == (isOn == 1)) {
                return refuse(4, isOn);
            }
            now.ropes.set(rope, new Rope(rope, r.parish, isOn == 1, r.rust));
            return (int) now.ropes.stream().filter(Rope::isOn).count();
        });
    }

    int oil(int rope, int much) {
        return change(() -> {
            if (noRope(rope)) {
                return Due.NONE;
            }
            if (out(much, 1, 9)) {
                return Due.BAD;
            }
            Rope r = now.ropes.get(rope);
            if (much > r.rust) {
                return refuse(5, r.rust);
            }
            now.ropes.set(rope, new Rope(rope, r.parish, r.isOn, r.rust - much));
            return r.rust - much;
        });
    }

    int ropeOf(int rope, int what) {
        if (noRope(rope)) {
            return Due.NONE;
        }
        Rope r = now.ropes.get(rope);
        int missed = count(Fate.MISSED, rope) + count(Fate.MISSED_AT_END, rope);
        int wait = (int) now.pulls.stream().filter(p -> p.rope == rope).count();
        return pick(what, r.parish, r.isOn ? 1 : 0, r.rust, count(Fate.ANSWERED, rope), missed,
            count(Fate.DOUBLE, rope), wait);
    }

    private static int pick(int what, int... values) {
        return out(what, 0, values.length - 1) ? Due.BAD : values[what];
    }

    // ---- pulls, rings, days

    private List<Pull> order() {
        List<Pull> sorted = new ArrayList<>(now.pulls);
        sorted.sort(Comparator.comparingInt(Pull::hour).thenComparingInt(p -> -p.strength)
            .thenComparingInt(Pull::rope).thenComparingInt(Pull::came));
        return sorted;
    }

    int pull(int rope, int hour, int strength) {
        return change(() -> {
            if (noRope(rope)) {
                return Due.NONE;
            }
            if (out(hour, 0, 23) || out(strength, 1, 9)) {
                return Due.BAD;
            }
            if (hour < now.hour) {
                return refuse(2, now.hour);
            }
            if (now.pulls.size() == 16) {
                return refuse(1, 16);
            }
            Pull pull = new Pull(rope, hour, strength, now.came);
            now.pulls.add(pull);
            now = new State(now.ropes, now.pulls, now.past, now.hour, now.day, now.came + 1);
            return order().indexOf(pull);
        });
    }

    int cancel(int rope) {
        return change(() -> {
            if (noRope(rope)) {
                return Due.NONE;
            }
            if (now.pulls.stream().noneMatch(p -> p.rope == rope)) {
                return refuse(6, now.pulls.size());
            }
            now.pulls.stream().filter(p -> p.rope == rope)
                .forEach(p -> now.past.add(new Past(Fate.TAKEN, rope, p.hour, now.day, p.strength)));
            now.pulls.removeIf(p -> p.rope == rope);
            return now.pulls.size();
        });
    }

    private boolean wasAnswered(int rope, int hour) {
        return now.past.stream().anyMatch(p -> p.fate == Fate.ANSWERED && p.rope == rope && p.hour == hour
            && p.day == now.day);
    }

    private Fate ringOne() {
        Pull p = order().get(0);
        now.pulls.remove(p);
        now = new State(now.ropes, now.pulls, now.past, p.hour, now.day, now.came);
        Rope r = now.ropes.get(p.rope);
        Fate fate = wasAnswered(p.rope, p.hour) ? Fate.DOUBLE
            : r.isOn && p.strength > r.rust ? Fate.ANSWERED : Fate.MISSED;
        now.past.add(new Past(fate, p.rope, p.hour, now.day, p.strength));
        if (fate == Fate.ANSWERED) {
            now.ropes.set(p.rope, new Rope(p.rope, r.parish, r.isOn, Math.min(9, r.rust + 1)));
        }
        return fate;
    }

    int ring() {
        return change(() -> {
            if (now.pulls.isEmpty()) {
                return refuse(3, rung());
            }
            Fate fate = ringOne();
            return fate == Fate.ANSWERED ? 1 : fate == Fate.MISSED ? 0 : 2;
        });
    }

    int hour() {
        return change(() -> {
            if (now.pulls.isEmpty()) {
                return refuse(3, rung());
            }
            int hour = order().get(0).hour;
            int answered = 0;
            while (now.pulls.stream().anyMatch(p -> p.hour == hour)) {
                answered += ringOne() == Fate.ANSWERED ? 1 : 0;
            }
            return answered;
        });
    }

    int end() {
        return change(() -> {
            int late = now.pulls.size();
            for (Pull p : now.pulls) {
                now.past.add(new Past(Fate.MISSED_AT_END, p.rope, p.hour, now.day, p.strength));
            }
            for (Rope r : List.copyOf(now.ropes)) {
                boolean wasHeard = now.past.stream()
                    .anyMatch(p -> p.fate == Fate.ANSWERED && p.rope == r.number && p.day == now.day);
                if (!wasHeard && r.rust > 0) {
                    now.ropes.set(r.number, new Rope(r.number, r.parish, r.isOn, r.rust - 1));
                }
            }
            now = new State(now.ropes, new ArrayList<>(), now.past, 0, now.day + 1, now.came);
            return late;
        });
    }

    int waiting(int place, int what) {
        if (out(place, 0, now.pulls.size() - 1)) {
            return Due.NONE;
        }
        Pull p = order().get(place);
        return pick(what, p.rope, p.hour, p.strength);
    }

    int would(int rope, int strength) {
        if (noRope(rope)) {
            return Due.NONE;
        }
        if (out(strength, 1, 9)) {
            return Due.BAD;
        }
        Rope r = now.ropes.get(rope);
        return r.isOn && r.rust < strength ? 1 : 0;
    }

    int forecast() {
        State old = now.copy();
        int answered = 0;
        while (!now.pulls.isEmpty()) {
            answered += ringOne() == Fate.ANSWERED ? 1 : 0;
        }
        now = old;
        return answered;
    }

    // ---- answers, guesses

    private List<Past> remembered() {
        List<Past> latest = new ArrayList<>();
        for (Past p : now.past) {
            if (p.fate == Fate.ANSWERED) {
                latest.add(0, p);
            }
        }
        return latest.subList(0, Math.min(20, latest.size()));
    }

    int answerOf(int answer, int what) {
        List<Past> all = remembered();
        if (out(answer, 0, all.size() - 1)) {
            return Due.NONE;
        }
        Past p = all.get(answer);
        return pick(what, p.rope, p.hour, p.day, p.strength);
    }

    int answered(int hour) {
        if (out(hour, 0, 23)) {
            return Due.BAD;
        }
        int set = 0;
        for (Rope r : now.ropes) {
            set += wasAnswered(r.number, hour) ? 1 << r.number : 0;
        }
        return set;
    }

    int guess(int hour) {
        if (out(hour, 0, 23)) {
            return Due.BAD;
        }
        int best = Due.NOTHING;
        int bestPart = 0;
        int bestWhole = 0;
        for (int parish = 3; parish >= 0; parish--) {
            int part = 0;
            int whole = 0;
            for (Rope r : now.ropes) {
                if (r.parish == parish) {
                    whole++;
                    part += wasAnswered(r.number, hour) ? 1 : 0;
                }
            }
            // Parts of 12 ropes at most: 27720 is divided by each number from 1 to 12.
            boolean isNoWorse = part > 0 && (best < 0 || 27720 / whole * part > 27720 / bestWhole * bestPart
                || 27720 / whole * part == 27720 / bestWhole * bestPart && part >= bestPart);
            if (isNoWorse) {
                best = parish;
                bestPart = part;
                bestWhole = whole;
            }
        }
        return best;
    }

    int parishOf(int parish, int what) {
        if (out(parish, 0, 3)) {
            return Due.NONE;
        }
        int ropes = 0;
        int answers = 0;
        int rust = 0;
        int wait = 0;
        for (Rope r : now.ropes) {
            if (r.parish == parish) {
                ropes++;
                answers += ropeOf(r.number, 3);
                rust += r.rust;
                wait += ropeOf(r.number, 6);
            }
        }
        int hours = 0;
        for (int hour = 0; hour < 24; hour++) {
            hours += guess(hour) == parish ? 1 : 0;
        }
        return pick(what, ropes, answers, rust, hours, wait);
    }

    int busiest() {
        int best = Due.NOTHING;
        int most = 1;
        for (int hour = 23; hour >= 0; hour--) {
            if (Integer.bitCount(answered(hour)) >= most) {
                most = Integer.bitCount(answered(hour));
                best = hour;
            }
        }
        return best;
    }

    // ---- orders

    int rustiest(int place) {
        List<Rope> sorted = new ArrayList<>(now.ropes);
        sorted.sort(Comparator.comparingInt((Rope r) -> -r.rust).thenComparingInt(r -> ropeOf(r.number, 3)));
        return out(place, 0, sorted.size() - 1) ? Due.NONE : sorted.get(place).number;
    }

    int ranked(int place) {
        List<Integer> sorted = new ArrayList<>(List.of(0, 1, 2, 3));
        sorted.sort(Comparator.comparingInt((Integer p) -> -parishOf(p, 1)).thenComparingInt(p -> -parishOf(p, 0)));
        return out(place, 0, 3) ? Due.NONE : sorted.get(place);
    }

    // ---- texts, lines

    int append(int code) {
        if (out(code, 32, 126)) {
            return Due.BAD;
        }
        if (text.length() == 60) {
            return Due.FULL;
        }
        text += (char) code;
        return text.length();
    }

    private static boolean canContinue(String beginning) {
        Matcher matcher = TEXT.matcher(beginning);
        return matcher.matches() || matcher.hitEnd();
    }

    private static int faultOf(String text) {
        for (int length = 1; length <= text.length(); length++) {
            if (!canContinue(text.substring(0, length))) {
                return length - 1;
            }
        }
        return TEXT.matcher(text).matches() ? -1 : text.length();
    }

    int run() {
        String read = text;
        text = "";
        int fault = faultOf(read);
        if (fault >= 0) {
            return -2000 - fault;
        }
        List<State> kept = new ArrayList<>(before);
        int result = change(() -> {
            String[] orders = read.split(";");
            for (int order = 0; order < orders.length; order++) {
                if (carryOut(orders[order]) < 0) {
                    return refuse(7, order);
                }
            }
            return orders.length;
        });
        State old = before.isEmpty() ? null : before.get(before.size() - 1);
        before.clear();
        before.addAll(kept);
        if (result >= 0) {
            before.add(old);
            if (before.size() > 8) {
                before.remove(0);
            }
        }
        return result;
    }

    private int carryOut(String order) {
        int[] n = NUMBER.matcher(order).results().mapToInt(m -> Integer.parseInt(m.group())).toArray();
        switch (order.charAt(0)) {
            case 'r':
                return rope(n[0]);
            case 'v':
                return move(n[0], n[1]);
            case 's':
                return sensor(n[0], order.endsWith("+") ? 1 : 0);
            case 'p':
                return pull(n[0], n[1], n[2]);
            case 'c':
                return cancel(n[0]);
            case 'n':
                return ring();
            case 'h':
                return hour();
            case 'o':
                return oil(n[0], n[1]);
            default:
                return end();
        }
    }

    int tell(int rope) {
        if (noRope(rope)) {
            return Due.NONE;
        }
        Rope r = now.ropes.get(rope);
        line = rope + ":" + r.parish + (r.isOn ? "" : "#") + "~".repeat(r.rust);
        for (Pull p : order()) {
            line += p.rope == rope ? "@" + p.hour + "*" + p.strength : "";
        }
        return line.length();
    }

    int tellDay() {
        List<String> hours = new ArrayList<>();
        for (int hour = 0; hour < 24; hour++) {
            if (answered(hour) != 0) {
                hours.add(hour + "=" + guess(hour));
            }
        }
        line = String.join(" ", hours);
        return line.length();
    }

    int character(int index) {
        return out(index, 0, line.length() - 1) ? Due.NONE : line.charAt(index);
    }

    // ---- reasons, accounts, undo and the snapshot

    int reason(boolean isDetail) {
        return isDetail ? detail : reason;
    }

    int account(int what) {
        int missed = count(Fate.MISSED, -1) + count(Fate.MISSED_AT_END, -1);
        int rust = now.ropes.stream().mapToInt(Rope::rust).sum();
        return pick(what, now.ropes.size(), now.pulls.size(), now.hour, now.day, now.came,
            count(Fate.ANSWERED, -1), missed, count(Fate.DOUBLE, -1), count(Fate.TAKEN, -1), rust,
            remembered().size(), text.length(), before.size());
    }

    double meanRust() {
        return now.ropes.isEmpty() ? 0.0 : (double) account(9) / (double) account(0);
    }

    float answerShare() {
        int all = account(5) + account(6) + account(7);
        return all == 0 ? 0.0f : (float) account(5) / (float) all;
    }

    int undo() {
        if (before.isEmpty()) {
            return Due.NOTHING;
        }
        now = before.remove(before.size() - 1);
        return before.size();
    }

    int save() {
        snapshot = now.copy();
        return now.ropes.size();
    }

    int restore() {
        if (snapshot == null) {
            return Due.NOTHING;
        }
        now = snapshot.copy();
        before.clear();
        return now.ropes.size();
    }
}
