import java.util.function.Supplier;

/**
 * All that the calls tell of a scene, a run of calls that is made anew. Questions are put to several
 * objects, because none is used for more than 512 calls.
 */
final class Picture {
    private static final int QUESTIONS_OF_OBJECT = 150;

    private final Supplier<UnheardBells> scene;
    private final StringBuilder all = new StringBuilder();
    private UnheardBells x;
    private int questions;

    private Picture(Supplier<UnheardBells> scene) {
        this.scene = scene;
    }

    /** What changes can change. */
    static String ofState(Supplier<UnheardBells> scene) {
        Picture picture = new Picture(scene);
        picture.state();
        return picture.all.toString();
    }

    /** The state, what can be undone, the snapshot, the text and the line: all but the reasons. */
    static String of(Supplier<UnheardBells> scene) {
        Picture picture = new Picture(scene);
        picture.state();
        picture.kept();
        return picture.all.toString();
    }

    private UnheardBells asked() {
        if (questions % QUESTIONS_OF_OBJECT == 0) {
            x = scene.get();
        }
        questions++;
        return x;
    }

    private void add(String question, long answer) {
        all.append(question).append(": ").append(answer).append('\n');
    }

    private void state() {
        for (int what = 0; what <= 10; what++) {
            add("account(" + what + ")", asked().account(what));
        }
        for (int rope = 0; rope < 12; rope++) {
            for (int what = 0; what <= 6; what++) {
                add("ropeOf(" + rope + ", " + what + ")", asked().ropeOf(rope, what));
            }
        }
        for (int place = 0; place < 16; place++) {
            for (int what = 0; what <= 2; what++) {
                add("waiting(" + place + ", " + what + ")", asked().waiting(place, what));
            }
        }
        for (int place = 0; place < 20; place++) {
            for (int what = 0; what <= 3; what++) {
                add("answerOf(" + place + ", " + what + ")", asked().answerOf(place, what));
            }
        }
        for (int hour = 0; hour < 24; hour++) {
            add("answered(" + hour + ")", asked().answered(hour));
            add("guess(" + hour + ")", asked().guess(hour));
        }
        rung();
    }

    /** How many were rung so far is told by a refused ring alone. */
    private void rung() {
        x = scene.get();
        for (int rope = 0; rope < 12; rope++) {
            x.cancel(rope);
        }
        add("ring() when all are taken away", x.ring());
        add("its detail", x.reason(true));
    }

    private void kept() {
        x = scene.get();
        all.append("line: ").append(Due.lineOf(x)).append('\n');
        add("account(11)", x.account(11));
        add("run()", x.run());
        few();
        x = scene.get();
        add("account(12)", x.account(12));
        for (int change = 0; change < 9; change++) {
            add("undo()", x.undo());
            few();
        }
        x = scene.get();
        add("restore()", x.restore());
        few();
    }

    /** Enough to tell two neighbouring states apart. */
    private void few() {
        for (int what = 0; what <= 12; what++) {
            add("then account(" + what + ")", x.account(what));
        }
        for (int rope = 0; rope < 3; rope++) {
            add("then ropeOf(" + rope + ", 0)", x.ropeOf(rope, 0));
            add("then ropeOf(" + rope + ", 1)", x.ropeOf(rope, 1));
        }
    }
}
