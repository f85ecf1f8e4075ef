import java.util.function.ToIntFunction;

/** The sentences of the promises 24 to 28: texts, lines. */
final class LineSentences {
    private LineSentences() {
    }

    static void all(Sentences s) {
        append(s);
        run(s);
        tell(s);
        tellDay(s);
        character(s);
    }

    private static void append(Sentences s) {
        s.in("Promise 24");
        s.says("Appends a character to the text.", due -> {
            UnheardBells x = new UnheardBells();
            Due.write(x, "r2;r3");
            due.is("run()", x.run(), 2);
            due.is("the parish of the second", x.ropeOf(1, 0), 3);
        });
        s.says("the code of the character, 32 to 126", due -> {
            for (int code = 32; code <= 126; code++) {
                UnheardBells x = Due.bells(0);
                due.is("append(" + code + ")", x.append(code), 1);
                boolean isOrder = code == 'e';
                boolean isBeginning = "rvspco".indexOf(code) >= 0;
                boolean isRing = code == 'n' || code == 'h';
                due.is("run of it", x.run(), isOrder ? 1 : isRing ? Due.REFUSED : isBeginning ? -2001 : -2000);
            }
        });
        s.says("Returns the length of the text", due -> {
            UnheardBells x = new UnheardBells();
            for (int length = 1; length <= 60; length++) {
                due.is("append", x.append('~'), length);
                due.is("the characters", x.account(11), length);
            }
            x.run();
            due.is("append to an empty one", x.append(' '), 1);
        });
        s.says("BAD if the code is out of range", due -> {
            for (int code : new int[] {Integer.MIN_VALUE, -1, 0, 31, 127, 128, 256 + 'e', 65536 + 'e', Integer.MAX_VALUE}) {
                Scenes.code(due, "append(" + code + ")", Scenes::busy, x -> x.append(code), Due.BAD);
                due.is("append(" + code + ") to a full text", full().append(code), Due.BAD);
            }
        });
        s.says("FULL if the text has 60 characters", due -> {
            for (int code : new int[] {32, 'e', 126}) {
                Scenes.code(due, "the character 61", LineSentences::full, x -> x.append(code), Due.FULL);
            }
            UnheardBells x = full();
            x.append(';');
            due.is("run of the 60", x.run(), 30);
            due.is("the parish that its last character told", x.ropeOf(0, 0), 3);
            due.is("append then", x.append('e'), 1);
        });
    }

    private static UnheardBells full() {
        UnheardBells x = new UnheardBells();
        Due.write(x, "e;".repeat(29) + "r3");
        return x;
    }

    private static void run(Sentences s) {
        s.in("Promise 25");
        s.says("Reads the text as orders and carries them out, all or none.", due -> {
            UnheardBells x = Due.bells(0);
            due.is("all", Due.runText(x, "e;e;r1"), 3);
            due.is("the day", x.account(3), 2);
            due.is("the ropes", x.account(0), 2);
            due.is("one change", x.account(12), 2);
            due.is("none", Due.runText(x, "e;e;r1;c0"), Due.REFUSED);
            due.is("the day", x.account(3), 2);
            due.is("the ropes", x.account(0), 2);
            due.is("no change", x.account(12), 2);
        });
        s.says("Returns how many orders", due -> {
            for (int orders = 1; orders <= 30; orders++) {
                due.is("orders", Due.runText(new UnheardBells(), "e;".repeat(orders - 1) + "e"), orders);
            }
        });
        s.says("-2000 minus the fault position if the text is wrong", due -> {
            wrongText(due, "", 0);
            wrongText(due, "?", 0);
            wrongText(due, "e;?", 2);
            wrongText(due, "c0;c0;c0;", 9);
            wrongText(due, "n;n;n;n;n;n;n;n;n;n;n;n;n;n;n;n;n;n;n;n;n;n;n;n;n;n;n;n;n;nn", 59);
            wrongText(due, "n;".repeat(30), 60);
        });
        s.says("REFUSED for the reason 7", due -> {
            Scenes.refused(due, "the order 0", Due::bells, x -> Due.runText(x, "n"), 7, 0);
            Scenes.refused(due, "the order 1", () -> Due.bells(0), x -> Due.runText(x, "p0@5*5;p1@5*5"), 7, 1);
            Scenes.refused(due, "the last order", Scenes::twelveRopes, x -> Due.runText(x, "e;e;r0"), 7, 2);
            Scenes.refused(due, "an order that asks for too many pulls", Scenes::sixteenPulls,
                x -> Due.runText(x, "h;p0@3*1;p0@4*1"), 7, 2);
            UnheardBells x = new UnheardBells();
            Due.runText(x, "h");
            due.is("the text is empty", x.account(11), 0);
        });
    }

    /** The text is empty then, and all else as if it had never been written. */
    private static void wrongText(Due due, String text, int position) {
        UnheardBells written = Due.bells(0);
        due.is("run of \"" + text + "\"", Due.runText(written, text), -2000 - position);
        due.is("the characters then", written.account(11), 0);
        due.is("the reason then", written.reason(false), Due.NOTHING);
        ToIntFunction<UnheardBells> writeAndRun = x -> Due.runText(x, text);
        Scenes.leavesAll(due, "run of \"" + text + "\"", () -> {
            UnheardBells x = Scenes.busy();
            x.run();
            return x;
        }, writeAndRun);
    }

    private static void tell(Sentences s) {
        s.in("Promise 26");
        s.says("its number, \":\" and its parish, \"#\" if its sensor is off, \"~\" for each unit of its rust, and for each "
            + "of its pulls that wait, in their order, \"@\" and the hour, \"*\" and the strength", due -> {
                told(due, Scenes.busy(), 0, "0:0~~@4*7@4*6");
                told(due, Scenes.busy(), 1, "1:1#");
                told(due, Scenes.busy(), 2, "2:2~@4*5@9*5");
                told(due, Scenes.twelveRopes(), 9, "9:1");
                told(due, Scenes.twelveRopes(), 10, "10:2");
                told(due, Scenes.rusty(9), 0, "0:0~~~~~~~~~");
                UnheardBells x = Scenes.rusty(8);
                x.sensor(0, 0);
                x.pull(0, 23, 9);
                x.pull(0, 9, 1);
                x.pull(0, 10, 1);
                told(due, x, 0, "0:0#~~~~~~~~@9*1@10*1@23*9");
            });
        s.says("in place of the line before", due -> {
            UnheardBells x = Scenes.busy();
            told(due, x, 0, "0:0~~@4*7@4*6");
            told(due, x, 1, "1:1#");
            due.is("behind the line", x.character(4), Due.NONE);
            x.tellDay();
            told(due, x, 1, "1:1#");
        });
        s.says("as in \"3:1~~@7*5@9*2\".", due -> {
            UnheardBells x = Due.bells(0, 0, 0, 1);
            Due.pullAndRing(x, 3, 0, 9);
            Due.pullAndRing(x, 3, 1, 9);
            x.pull(3, 9, 2);
            x.pull(3, 7, 5);
            told(due, x, 3, "3:1~~@7*5@9*2");
        });
        s.says("Returns the length of the line", due -> {
            due.is("the shortest", Due.bells(0).tell(0), 3);
            UnheardBells x = Scenes.twelveRopes();
            for (int hour = 0; hour < 9; hour++) {
                Due.pullAndRing(x, 11, hour, 9);
            }
            x.sensor(11, 0);
            for (int pull = 0; pull < 16; pull++) {
                x.pull(11, 10, 9);
            }
            due.is("the longest", x.tell(11), 5 + 9 + 80);
            due.is("its first character", x.character(0), '1');
            due.is("its last character", x.character(93), '9');
            due.is("none behind it", x.character(94), Due.NONE);
        });
        s.says("NONE if there is no such rope", due -> {
            for (int rope : Scenes.NO_ROPE_OF_THREE) {
                Scenes.code(due, "tell(" + rope + ")", Scenes::busy, x -> x.tell(rope), Due.NONE);
            }
            Scenes.code(due, "tell(0) without ropes", UnheardBells::new, x -> x.tell(0), Due.NONE);
        });
    }

    private static void told(Due due, UnheardBells x, int rope, String want) {
        due.is("tell(" + rope + ")", x.tell(rope), want.length());
        due.text("the line of tell(" + rope + ")", Due.lineOf(x), want);
    }

    private static void tellDay(Sentences s) {
        s.in("Promise 27");
        s.says("for each the hour, \"=\" and the parish that is guessed, with a blank between two", due -> {
            UnheardBells x = Scenes.answers(24);
            x.tellDay();
            due.text("a full day", Due.lineOf(x), "0=0 1=1 2=2 3=3 4=0 5=1 6=2 7=3 8=0 9=1 10=2 11=3 12=0 13=1 14=2 15=3"
                + " 16=0 17=1 18=2 19=3 20=0 21=1 22=2 23=3");
            x = Due.bells(3);
            Due.pullAndRing(x, 0, 23, 1);
            x.tellDay();
            due.text("one hour", Due.lineOf(x), "23=3");
        });
        s.says("in place of the line before", due -> {
            UnheardBells x = Scenes.busy();
            x.tellDay();
            due.text("in place of a longer one", Due.lineOf(x), "2=0 3=0");
            x.end();
            x.tellDay();
            due.text("an empty one", Due.lineOf(x), "");
            due.is("its first character", x.character(0), Due.NONE);
        });
        s.says("as in \"7=1 9=0\".", due -> {
            UnheardBells x = Due.bells(0, 1);
            Due.pullAndRing(x, 1, 7, 1);
            Due.pullAndRing(x, 0, 9, 1);
            x.tellDay();
            due.text("the line", Due.lineOf(x), "7=1 9=0");
        });
        s.says("Returns the length of the line.", due -> {
            due.is("without ropes", new UnheardBells().tellDay(), 0);
            due.is("without answers", Due.bells(0).tellDay(), 0);
            due.is("of two hours", Scenes.busy().tellDay(), 7);
            due.is("of a full day", Scenes.answers(24).tellDay(), 10 * 3 + 14 * 4 + 23);
        });
    }

    private static void character(Sentences s) {
        s.in("Promise 28");
        s.says("a character of the line, which is empty at first", due -> {
            UnheardBells x = Due.bells(0);
            due.is("character(0) at first", x.character(0), Due.NONE);
            x.tell(0);
            due.text("the line", Due.lineOf(x), "0:0");
        });
        s.says("the index, from 0", due -> {
            UnheardBells x = Scenes.busy();
            due.is("character(0)", x.character(0), '0');
            due.is("character(12)", x.character(12), '6');
        });
        s.says("Returns the code of the character", due -> {
            UnheardBells x = Due.bells(3);
            x.sensor(0, 0);
            x.pull(0, 7, 8);
            x.tell(0);
            int[] wants = {48, 58, 51, 35, 64, 55, 42, 56};
            for (int index = 0; index < wants.length; index++) {
                due.is("character(" + index + ")", x.character(index), wants[index]);
            }
        });
        s.says("NONE if there is none", due -> {
            for (int index : new int[] {Integer.MIN_VALUE, -1, 13, 127, 128, Integer.MAX_VALUE}) {
                Scenes.code(due, "character(" + index + ")", Scenes::busy, x -> x.character(index), Due.NONE);
            }
            Scenes.code(due, "character(0) of no line", UnheardBells::new, x -> x.character(0), Due.NONE);
        });
    }
}
