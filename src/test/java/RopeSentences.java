/** The sentences of the promises 1 to 6: a new object, and the ropes. */
final class RopeSentences {
    private RopeSentences() {
    }

    static void all(Sentences s) {
        newObject(s);
        rope(s);
        move(s);
        sensor(s);
        oil(s);
        ropeOf(s);
    }

    private static void newObject(Sentences s) {
        s.in("Promise 1");
        s.says("Begins without ropes", due -> {
            UnheardBells x = new UnheardBells();
            due.is("the ropes", x.account(0), 0);
            due.is("ropeOf(0, 0)", x.ropeOf(0, 0), Due.NONE);
            due.is("tell(0)", x.tell(0), Due.NONE);
            due.is("rustiest(0)", x.rustiest(0), Due.NONE);
            due.is("would(0, 1)", x.would(0, 1), Due.NONE);
            due.is("save()", x.save(), 0);
        });
        s.says("in the hour 0 of the day 0", due -> {
            UnheardBells x = new UnheardBells();
            due.is("the hour", x.account(2), 0);
            due.is("the day", x.account(3), 0);
        });
    }

    private static void rope(Sentences s) {
        s.in("Promise 2");
        s.says("Brings a rope.", due -> {
            UnheardBells x = new UnheardBells();
            x.rope(2);
            due.is("the ropes", x.account(0), 1);
            due.is("its parish", x.ropeOf(0, 0), 2);
            due.is("the ropes of the parish", x.parishOf(2, 0), 1);
        });
        s.says("Returns its number", due -> {
            UnheardBells x = new UnheardBells();
            for (int number = 0; number < 12; number++) {
                due.is("rope", x.rope(3 - number % 4), number);
            }
        });
        s.says("BAD if there is no such parish", due -> {
            for (int parish : Scenes.NO_PARISH) {
                Scenes.code(due, "rope(" + parish + ")", Scenes::busy, x -> x.rope(parish), Due.BAD);
            }
            Scenes.code(due, "rope(4) without ropes", UnheardBells::new, x -> x.rope(4), Due.BAD);
        });
        s.says("REFUSED for the reason 1", due -> {
            for (int parish = 0; parish <= 3; parish++) {
                int its = parish;
                Scenes.refused(due, "the rope 13", Scenes::twelveRopes, x -> x.rope(its), 1, 12);
            }
        });
    }

    private static void move(Sentences s) {
        s.in("Promise 3");
        s.says("Gives a rope to another parish.", due -> {
            UnheardBells x = Due.bells(0, 0);
            x.move(1, 3);
            due.is("its parish", x.ropeOf(1, 0), 3);
            due.is("that of another rope", x.ropeOf(0, 0), 0);
        });
        s.says("Returns the parish before", due -> {
            UnheardBells x = Due.bells(0);
            due.is("move(0, 3)", x.move(0, 3), 0);
            due.is("move(0, 1)", x.move(0, 1), 3);
            due.is("move(0, 0)", x.move(0, 0), 1);
        });
        s.says("NONE if there is no such rope", due -> {
            for (int rope : Scenes.NO_ROPE_OF_THREE) {
                Scenes.code(due, "move(" + rope + ", 3)", Scenes::busy, x -> x.move(rope, 3), Due.NONE);
            }
            Scenes.code(due, "move(0, 0) without ropes", UnheardBells::new, x -> x.move(0, 0), Due.NONE);
            Scenes.code(due, "move(12, 0) of twelve", Scenes::twelveRopes, x -> x.move(12, 0), Due.NONE);
        });
        s.says("BAD if there is no such parish", due -> {
            for (int parish : Scenes.NO_PARISH) {
                Scenes.code(due, "move(0, " + parish + ")", Scenes::busy, x -> x.move(0, parish), Due.BAD);
            }
        });
        s.says("REFUSED for the reason 4", due -> {
            Scenes.refused(due, "move(0, 0)", Scenes::busy, x -> x.move(0, 0), 4, 0);
            Scenes.refused(due, "move(2, 2)", Scenes::busy, x -> x.move(2, 2), 4, 2);
            Scenes.refused(due, "move(11, 3)", Scenes::twelveRopes, x -> x.move(11, 3), 4, 3);
        });
    }

    private static void sensor(Sentences s) {
        s.in("Promise 4");
        s.says("Puts the sensor of a rope on or off.", due -> {
            UnheardBells x = Due.bells(0, 0);
            x.sensor(1, 0);
            due.is("its sensor", x.ropeOf(1, 1), 0);
            due.is("that of another rope", x.ropeOf(0, 1), 1);
            x.sensor(1, 1);
            due.is("its sensor", x.ropeOf(1, 1), 1);
        });
        s.says("1 for on, 0 for off", due -> {
            UnheardBells x = Due.bells(0);
            due.is("sensor(0, 0)", x.sensor(0, 0), 0);
            due.is("would(0, 9)", x.would(0, 9), 0);
            due.is("sensor(0, 1)", x.sensor(0, 1), 1);
            due.is("would(0, 9)", x.would(0, 9), 1);
        });
        s.says("Returns how many sensors are on then", due -> {
            UnheardBells x = Scenes.twelveRopes();
            for (int rope = 0; rope < 12; rope++) {
                due.is("sensor(" + rope + ", 0)", x.sensor(rope, 0), 11 - rope);
            }
            for (int rope = 0; rope < 12; rope++) {
                due.is("sensor(" + rope + ", 1)", x.sensor(rope, 1), rope + 1);
            }
        });
        s.says("NONE if there is no such rope", due -> {
            for (int rope : Scenes.NO_ROPE_OF_THREE) {
                Scenes.code(due, "sensor(" + rope + ", 0)", Scenes::busy, x -> x.sensor(rope, 0), Due.NONE);
                Scenes.code(due, "sensor(" + rope + ", 1)", Scenes::busy, x -> x.sensor(rope, 1), Due.NONE);
            }
            Scenes.code(due, "sensor(0, 0) without ropes", UnheardBells::new, x -> x.sensor(0, 0), Due.NONE);
        });
        s.says("BAD if isOn is neither", due -> {
            for (int isOn : new int[] {Integer.MIN_VALUE, -1, 2, 256, Integer.MAX_VALUE}) {
                Scenes.code(due, "sensor(0, " + isOn + ")", Scenes::busy, x -> x.sensor(0, isOn), Due.BAD);
                Scenes.code(due, "sensor(1, " + isOn + ")", Scenes::busy, x -> x.sensor(1, isOn), Due.BAD);
            }
        });
        s.says("REFUSED for the reason 4", due -> {
            Scenes.refused(due, "sensor(0, 1)", Scenes::busy, x -> x.sensor(0, 1), 4, 1);
            Scenes.refused(due, "sensor(1, 0)", Scenes::busy, x -> x.sensor(1, 0), 4, 0);
        });
    }

    private static void oil(Sentences s) {
        s.in("Promise 5");
        s.says("Oils a rope.", due -> {
            UnheardBells x = Due.bells(0, 0);
            Due.pullAndRing(x, 0, 0, 9);
            Due.pullAndRing(x, 1, 0, 9);
            x.oil(1, 1);
            due.is("its rust", x.ropeOf(1, 2), 0);
            due.is("that of another rope", x.ropeOf(0, 2), 1);
        });
        s.says("how much rust goes, 1 to 9", due -> {
            for (int much = 1; much <= 9; much++) {
                UnheardBells x = Scenes.rusty(9);
                due.is("oil(0, " + much + ")", x.oil(0, much), 9 - much);
            }
        });
        s.says("Returns the rust then", due -> {
            UnheardBells x = Scenes.rusty(9);
            due.is("oil(0, 2)", x.oil(0, 2), 7);
            due.is("oil(0, 6)", x.oil(0, 6), 1);
            due.is("oil(0, 1)", x.oil(0, 1), 0);
            due.is("the rust", x.ropeOf(0, 2), 0);
        });
        s.says("NONE if there is no such rope", due -> {
            for (int rope : Scenes.NO_ROPE_OF_THREE) {
                Scenes.code(due, "oil(" + rope + ", 1)", Scenes::busy, x -> x.oil(rope, 1), Due.NONE);
            }
            Scenes.code(due, "oil(0, 1) without ropes", UnheardBells::new, x -> x.oil(0, 1), Due.NONE);
        });
        s.says("BAD if the number is out of range", due -> {
            for (int much : Scenes.NO_STRENGTH) {
                Scenes.code(due, "oil(0, " + much + ")", Scenes::busy, x -> x.oil(0, much), Due.BAD);
            }
        });
        s.says("REFUSED for the reason 5", due -> {
            Scenes.refused(due, "one more than there is", Scenes::busy, x -> x.oil(0, 3), 5, 2);
            Scenes.refused(due, "9 of 2", Scenes::busy, x -> x.oil(0, 9), 5, 2);
            Scenes.refused(due, "1 of 0", Scenes::busy, x -> x.oil(1, 1), 5, 0);
            Scenes.refused(due, "9 of 8", () -> Scenes.rusty(8), x -> x.oil(0, 9), 5, 8);
        });
    }

    private static void ropeOf(Sentences s) {
        s.in("Promise 6");
        s.says("Returns a number of a rope.", due -> {
            UnheardBells x = Scenes.twelveRopes();
            due.is("the parish of the first", x.ropeOf(0, 0), 0);
            due.is("the parish of the last", x.ropeOf(11, 0), 3);
        });
        s.says("0 for its parish, 1 for 1 if its sensor is on, and 0 otherwise, 2 for its rust, 3 for the answers so far, "
            + "4 for the pulls missed so far, 5 for the doubles so far, 6 for its pulls that wait", due -> {
                int[][] wants = {{0, 1, 2, 2, 0, 0, 2}, {1, 0, 0, 0, 4, 0, 0}, {2, 1, 1, 1, 1, 1, 2}};
                for (int rope = 0; rope < 3; rope++) {
                    for (int what = 0; what <= 6; what++) {
                        due.is("ropeOf(" + rope + ", " + what + ")", Scenes.busy().ropeOf(rope, what), wants[rope][what]);
                    }
                }
                UnheardBells x = Scenes.busy();
                x.hour();
                x.end();
                int[] later = {0, 1, 3, 3, 0, 1, 0};
                for (int what = 0; what <= 6; what++) {
                    due.is("ropeOf(0, " + what + ") later", x.ropeOf(0, what), later[what]);
                }
                due.is("missed of rope 2 later", x.ropeOf(2, 4), 2);
            });
        s.says("NONE if there is no such rope", due -> {
            for (int rope : Scenes.NO_ROPE_OF_THREE) {
                for (int what = 0; what <= 6; what++) {
                    due.is("ropeOf(" + rope + ", " + what + ")", Scenes.busy().ropeOf(rope, what), Due.NONE);
                }
                Scenes.code(due, "ropeOf(" + rope + ", 0)", Scenes::busy, x -> x.ropeOf(rope, 0), Due.NONE);
            }
            due.is("ropeOf(12, 0) of twelve", Scenes.twelveRopes().ropeOf(12, 0), Due.NONE);
        });
        s.says("BAD if what is not from 0 to 6", due -> {
            for (int what : new int[] {Integer.MIN_VALUE, -1, 7, Integer.MAX_VALUE}) {
                Scenes.code(due, "ropeOf(0, " + what + ")", Scenes::busy, x -> x.ropeOf(0, what), Due.BAD);
            }
        });
    }
}
