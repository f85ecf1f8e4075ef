import java.lang.reflect.Field;

/**
 * Promise 31 where the answer is 0. No call can bring that about, so the rows inside are put wrong
 * here, one at a time, and isBalanced must see it.
 */
public final class BalanceTest {
    private static final Due due = new Due("BalanceTest");

    public static void main(String[] args) throws ReflectiveOperationException {
        for (String count : new String[] {"came", "answers", "misses", "doubles", "takenAway"}) {
            UnheardBells x = bells();
            Object now = inside(x, "now");
            Field field = field(now, count);
            field.setInt(now, field.getInt(now) + 1);
            due.is("isBalanced() with one more of " + count, x.isBalanced(), 0);
        }
        for (String count : new String[] {"answers", "misses", "doubles"}) {
            UnheardBells x = bells();
            ropes(x, count)[1]++;
            due.is("isBalanced() with one more of a rope's " + count, x.isBalanced(), 0);
        }
        pullOfNoRope();
        forecastsThatDiffer();
        guessesThatDiffer();
        due.is("isBalanced() when all is right", bells().isBalanced(), 1);
        due.end();
    }

    private static UnheardBells bells() {
        UnheardBells x = Due.bells(0, 1);
        Due.pullAndRing(x, 0, 0, 9);
        x.pull(0, 5, 9);
        x.pull(1, 6, 9);
        return x;
    }

    private static void pullOfNoRope() throws ReflectiveOperationException {
        UnheardBells x = bells();
        ((int[]) inside(inside(inside(x, "now"), "pulls"), "rope"))[0] = 7;
        due.is("isBalanced() with a pull of no rope", x.isBalanced(), 0);
    }

    private static void forecastsThatDiffer() throws ReflectiveOperationException {
        UnheardBells x = bells();
        ropes(x, "isOn")[1] = 2;
        due.that("the forecasts differ", x.forecast() != x.forecastAgain());
        due.is("isBalanced() when the forecasts differ", x.isBalanced(), 0);
    }

    private static void guessesThatDiffer() throws ReflectiveOperationException {
        for (int hour = 0; hour < 24; hour++) {
            UnheardBells x = Due.bells(0, 1);
            Due.pullAndRing(x, 0, hour, 9);
            due.is("isBalanced() with an answer in the hour " + hour, x.isBalanced(), 1);
            ropes(x, "parish")[0] = 7;
            due.that("the guesses differ", x.guess(hour) != x.guessAgain(hour));
            due.is("isBalanced() when the guesses of the hour " + hour + " differ", x.isBalanced(), 0);
        }
    }

    private static int[] ropes(UnheardBells x, String row) throws ReflectiveOperationException {
        return (int[]) inside(inside(inside(x, "now"), "ropes"), row);
    }

    private static Object inside(Object owner, String name) throws ReflectiveOperationException {
        return field(owner, name).get(owner);
    }

    private static Field field(Object owner, String name) throws ReflectiveOperationException {
        Field field = owner.getClass().getDeclaredField(name);
        field.setAccessible(true);
        return field;
    }
}
