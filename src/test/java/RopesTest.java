/** Promises 1 to 6: a new object, and the ropes. */
public final class RopesTest {
    private static final Due due = new Due("RopesTest");

    public static void main(String[] args) {
        newObject();
        rope();
        move();
        sensor();
        oil();
        ropeOf();
        due.end();
    }

    private static void newObject() {
        UnheardBells x = new UnheardBells();
        for (int what = 0; what <= 12; what++) {
            due.is("account of a new object", x.account(what), 0);
        }
        due.is("ropeOf without ropes", x.ropeOf(0, 0), Due.NONE);
        due.is("waiting of a new object", x.waiting(0, 0), Due.NONE);
        due.is("answerOf of a new object", x.answerOf(0, 0), Due.NONE);
        due.is("isBalanced of a new object", x.isBalanced(), 1);
    }

    private static void rope() {
        UnheardBells x = new UnheardBells();
        due.is("rope(-1)", x.rope(-1), Due.BAD);
        due.is("rope(4)", x.rope(4), Due.BAD);
        due.is("reason after BAD", x.reason(false), Due.NOTHING);
        due.is("ropes after BAD", x.account(0), 0);
        for (int number = 0; number < 12; number++) {
            due.is("rope " + number, x.rope(number % 4), number);
            due.is("its parish", x.ropeOf(number, 0), number % 4);
            due.is("its sensor", x.ropeOf(number, 1), 1);
            due.is("its rust", x.ropeOf(number, 2), 0);
        }
        due.is("BAD is ahead of the reason 1", x.rope(4), Due.BAD);
        due.refused(x, "the rope 13", x.rope(3), 1, 12);
        due.is("ropes", x.account(0), 12);
    }

    private static void move() {
        UnheardBells x = Due.bells(2, 3);
        due.is("move(2, 0)", x.move(2, 0), Due.NONE);
        due.is("move(-1, 9)", x.move(-1, 9), Due.NONE);
        due.is("move(0, 4)", x.move(0, 4), Due.BAD);
        due.is("move(0, -1)", x.move(0, -1), Due.BAD);
        due.refused(x, "move to its own parish", x.move(0, 2), 4, 2);
        due.refused(x, "move of the other to its own", x.move(1, 3), 4, 3);
        due.is("move(0, 0)", x.move(0, 0), 2);
        due.is("move(0, 1)", x.move(0, 1), 0);
        due.is("its parish", x.ropeOf(0, 0), 1);
        due.is("the parish of the other", x.ropeOf(1, 0), 3);
    }

    private static void sensor() {
        UnheardBells x = Due.bells(0, 1, 2);
        due.is("sensor(3, 0)", x.sensor(3, 0), Due.NONE);
        due.is("sensor(-1, 5)", x.sensor(-1, 5), Due.NONE);
        due.is("sensor(0, 2)", x.sensor(0, 2), Due.BAD);
        due.is("sensor(0, -1)", x.sensor(0, -1), Due.BAD);
        due.refused(x, "sensor that is on", x.sensor(1, 1), 4, 1);
        due.is("sensor(1, 0)", x.sensor(1, 0), 2);
        due.refused(x, "sensor that is off", x.sensor(1, 0), 4, 0);
        due.is("sensor(0, 0)", x.sensor(0, 0), 1);
        due.is("sensor(2, 0)", x.sensor(2, 0), 0);
        due.is("sensor(1, 1)", x.sensor(1, 1), 1);
        due.is("it is on", x.ropeOf(1, 1), 1);
        due.is("another is off", x.ropeOf(0, 1), 0);
    }

    private static void oil() {
        UnheardBells x = Due.bells(0, 0);
        due.is("oil(2, 1)", x.oil(2, 1), Due.NONE);
        due.is("oil(-1, 0)", x.oil(-1, 0), Due.NONE);
        due.is("oil(0, 0)", x.oil(0, 0), Due.BAD);
        due.is("oil(0, 10)", x.oil(0, 10), Due.BAD);
        due.refused(x, "oil without rust", x.oil(0, 1), 5, 0);
        for (int hour = 0; hour < 9; hour++) {
            due.is("an answer", Due.pullAndRing(x, 0, hour, 9), 1);
        }
        due.is("the rust", x.ropeOf(0, 2), 9);
        due.is("oil(0, 2)", x.oil(0, 2), 7);
        due.refused(x, "oil for more rust than there is", x.oil(0, 8), 5, 7);
        due.is("oil for just as much", x.oil(0, 7), 0);
        due.is("the rust then", x.ropeOf(0, 2), 0);
        due.is("the rust of the other", x.ropeOf(1, 2), 0);
        x.undo();
        x.undo();
        due.is("oil(0, 9)", x.oil(0, 9), 0);
    }

    private static void ropeOf() {
        UnheardBells x = Due.bells(0, 3);
        x.pull(1, 4, 9);
        x.pull(1, 4, 8);
        x.pull(1, 5, 1);
        x.pull(1, 6, 2);
        x.pull(1, 7, 2);
        x.pull(0, 9, 2);
        x.hour();
        x.ring();
        x.sensor(1, 0);
        int[] wants = {3, 0, 1, 1, 1, 1, 2};
        for (int what = 0; what < wants.length; what++) {
            due.is("ropeOf(1, " + what + ")", x.ropeOf(1, what), wants[what]);
        }
        due.is("ropeOf(0, 6)", x.ropeOf(0, 6), 1);
        due.is("ropeOf(0, 3)", x.ropeOf(0, 3), 0);
        due.is("ropeOf(1, -1)", x.ropeOf(1, -1), Due.BAD);
        due.is("ropeOf(1, 7)", x.ropeOf(1, 7), Due.BAD);
        due.is("ropeOf(2, 7)", x.ropeOf(2, 7), Due.NONE);
        due.is("ropeOf(-1, 0)", x.ropeOf(-1, 0), Due.NONE);
        x.end();
        due.is("those missed as the day ends count for the rope", x.ropeOf(1, 4), 3);
        due.is("none of it waits then", x.ropeOf(1, 6), 0);
    }
}
