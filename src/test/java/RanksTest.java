/** Promises 22 and 23: ropes and parishes in an order. */
public final class RanksTest {
    private static final Due due = new Due("RanksTest");

    public static void main(String[] args) {
        rustiest();
        ranked();
        due.end();
    }

    private static void rustiest() {
        UnheardBells x = new UnheardBells();
        due.is("rustiest(0) without ropes", x.rustiest(0), Due.NONE);
        x = Due.bells(0, 1, 2, 3, 0);
        ropesInOrder(x, 0, 1, 2, 3, 4);
        answer(x, 1, 0, 1);
        answer(x, 3, 2, 3, 4);
        ropesInOrder(x, 3, 1, 0, 2, 4);
        x.oil(3, 1);
        ropesInOrder(x, 1, 3, 0, 2, 4);
        x.oil(1, 2);
        ropesInOrder(x, 3, 0, 2, 4, 1);
        answer(x, 4, 5, 6);
        ropesInOrder(x, 4, 3, 0, 2, 1);
        due.is("rustiest(-1)", x.rustiest(-1), Due.NONE);
        due.is("rustiest(5)", x.rustiest(5), Due.NONE);
    }

    private static void ranked() {
        UnheardBells x = new UnheardBells();
        parishesInOrder(x, 0, 1, 2, 3);
        x.rope(3);
        x.rope(3);
        x.rope(1);
        x.rope(0);
        parishesInOrder(x, 3, 0, 1, 2);
        answer(x, 2, 0, 1);
        answer(x, 3, 2);
        parishesInOrder(x, 1, 0, 3, 2);
        answer(x, 0, 3);
        parishesInOrder(x, 1, 3, 0, 2);
        answer(x, 1, 3);
        parishesInOrder(x, 3, 1, 0, 2);
        x.move(0, 2);
        parishesInOrder(x, 1, 0, 2, 3);
        due.is("ranked(-1)", x.ranked(-1), Due.NONE);
        due.is("ranked(4)", x.ranked(4), Due.NONE);
    }

    private static void answer(UnheardBells x, int rope, int... hours) {
        for (int hour : hours) {
            due.is("an answer of " + rope + " at " + hour, Due.pullAndRing(x, rope, hour, 9), 1);
        }
    }

    private static void ropesInOrder(UnheardBells x, int... wants) {
        for (int place = 0; place < wants.length; place++) {
            due.is("rustiest(" + place + ")", x.rustiest(place), wants[place]);
        }
    }

    private static void parishesInOrder(UnheardBells x, int... wants) {
        for (int place = 0; place < wants.length; place++) {
            due.is("ranked(" + place + ")", x.ranked(place), wants[place]);
        }
    }
}
