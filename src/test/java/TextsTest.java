/** Promises 24 to 28: texts, lines. */
public final class TextsTest {
    private static final Due due = new Due("TextsTest");

    public static void main(String[] args) {
        append();
        runOrders();
        runTwoDigits();
        runFaults();
        runReadsNothingOfEarlierTexts();
        runFails();
        runRanges();
        runAllOrNone();
        runIsOneChange();
        tell();
        tellDay();
        character();
        due.end();
    }

    private static void append() {
        UnheardBells x = new UnheardBells();
        due.is("append(31)", x.append(31), Due.BAD);
        due.is("append(127)", x.append(127), Due.BAD);
        due.is("append(32)", x.append(32), 1);
        due.is("append(126)", x.append(126), 2);
        for (int length = 3; length <= 60; length++) {
            due.is("append", x.append('n'), length);
        }
        due.is("the character 61", x.append('n'), Due.FULL);
        due.is("BAD is ahead of FULL", x.append(31), Due.BAD);
        due.is("characters of the text", x.account(11), 60);
        due.is("append is no change", x.account(12), 0);
    }

    private static void runOrders() {
        UnheardBells x = new UnheardBells();
        due.is("r", Due.runText(x, "r2"), 1);
        due.is("the text is empty then", x.account(11), 0);
        due.is("its parish", x.ropeOf(0, 0), 2);
        due.is("v", Due.runText(x, "v0:3"), 1);
        due.is("its parish", x.ropeOf(0, 0), 3);
        due.is("s -", Due.runText(x, "s0-"), 1);
        due.is("its sensor", x.ropeOf(0, 1), 0);
        due.is("s +", Due.runText(x, "s0+"), 1);
        due.is("its sensor", x.ropeOf(0, 1), 1);
        due.is("p", Due.runText(x, "p0@7*5"), 1);
        due.is("its hour", x.waiting(0, 1), 7);
        due.is("its strength", x.waiting(0, 2), 5);
        due.is("c", Due.runText(x, "c0"), 1);
        due.is("none waits", x.account(1), 0);
        due.is("n", Due.runText(x, "p0@1*1;n"), 2);
        due.is("answered", x.account(5), 1);
        due.is("h", Due.runText(x, "p0@2*9;p0@2*8;p0@3*9;h"), 4);
        due.is("doubles", x.account(7), 1);
        due.is("one waits", x.account(1), 1);
        due.is("o", Due.runText(x, "o0-2"), 1);
        due.is("its rust", x.ropeOf(0, 2), 0);
        due.is("e", Due.runText(x, "e"), 1);
        due.is("the day", x.account(3), 1);
        due.is("thirty orders", Due.runText(x, "e;e;e;e;e;e;e;e;e;e;e;e;e;e;e;e;e;e;e;e;e;e;e;e;e;e;e;e;e;e"), 30);
        due.is("the day", x.account(3), 31);
        due.is("a late order", Due.runText(x, "e;e;e;e;e;e;e;e;e;e;e;e;e;e;e;e;e;e;e;e;e;e;e;e;e;e;e;e;r3"), 29);
        due.is("its parish", x.ropeOf(1, 0), 3);
        due.is("no reason was kept", x.reason(false), Due.NOTHING);
    }

    private static void runTwoDigits() {
        UnheardBells x = new UnheardBells();
        due.is("twelve ropes", Due.runText(x, "r0;r0;r0;r0;r0;r0;r0;r0;r0;r0;r0;r0"), 12);
        due.is("two digits", Due.runText(x, "v11:1;s10-;p11@23*9;p05@07*1;c11;p10@19*2"), 6);
        due.is("the parish of 11", x.ropeOf(11, 0), 1);
        due.is("the sensor of 10", x.ropeOf(10, 1), 0);
        due.is("the rope at 0", x.waiting(0, 0), 5);
        due.is("the hour at 0", x.waiting(0, 1), 7);
        due.is("the rope at 1", x.waiting(1, 0), 10);
        due.is("the hour at 1", x.waiting(1, 1), 19);
        due.is("rings", Due.runText(x, "h;p11@8*3;n;o11-1;s10+;c10"), 6);
        due.is("the rust of 11", x.ropeOf(11, 2), 0);
        due.is("the answers of 11", x.ropeOf(11, 3), 1);
    }

    private static void runFaults() {
        fault("", 0);
        fault("x", 0);
        fault("R0", 0);
        fault(" r0", 0);
        fault(";", 0);
        fault("0", 0);
        fault("r", 1);
        fault("rx", 1);
        fault("r0;", 3);
        fault("r0;;e", 3);
        fault("r0;x", 3);
        fault("r0 ;e", 2);
        fault("r00", 2);
        fault("v", 1);
        fault("v:", 1);
        fault("v0", 2);
        fault("v12", 3);
        fault("v123:0", 3);
        fault("v0-0", 2);
        fault("v0:", 3);
        fault("v0:x", 3);
        fault("v0:00", 4);
        fault("s0", 2);
        fault("s0*", 2);
        fault("s0++", 3);
        fault("s+", 1);
        fault("s012+", 3);
        fault("p0", 2);
        fault("p0*", 2);
        fault("p0@", 3);
        fault("p0@*", 3);
        fault("p0@1", 4);
        fault("p0@12", 5);
        fault("p0@123*", 5);
        fault("p0@1@", 4);
        fault("p0@1*", 5);
        fault("p0@1*;", 5);
        fault("p0@1*99", 6);
        fault("c", 1);
        fault("c;", 1);
        fault("c0e", 2);
        fault("c000", 3);
        fault("nn", 1);
        fault("n0", 1);
        fault("h;h0", 3);
        fault("o0", 2);
        fault("o0+1", 2);
        fault("o0-", 3);
        fault("o0--", 3);
        fault("o0-10", 4);
        fault("e1", 1);
        fault("e,e", 1);
        fault("e;e;e;e;e;e;e;e;e;e;e;e;e;e;e;e;e;e;e;e;e;e;e;e;e;e;e;e;e;e;", 60);
        fault("e;e;e;e;e;e;e;e;e;e;e;e;e;e;e;e;e;e;e;e;e;e;e;e;e;e;e;e;r1;", 59);
    }

    private static void fault(String text, int position) {
        UnheardBells x = Due.bells(0);
        due.is("run of \"" + text + "\"", Due.runText(x, text), -2000 - position);
        due.is("the text is empty after a fault", x.account(11), 0);
        due.is("nothing was carried out", x.account(3) + x.account(4), 0);
        due.is("a fault is no change", x.account(12), 1);
        due.is("a fault keeps no reason", x.reason(false), Due.NOTHING);
    }

    private static void runReadsNothingOfEarlierTexts() {
        UnheardBells x = Due.bells(0);
        due.is("a whole order", Due.runText(x, "p0@5*1"), 1);
        due.is("less of it", Due.runText(x, "p0@5*"), -2005);
        x = new UnheardBells();
        due.is("two ropes", Due.runText(x, "r0;r0"), 2);
        due.is("a rope of two digits", Due.runText(x, "s01-"), 1);
        x.pull(0, 5, 5);
        due.refused(x, "a rope that does not wait", Due.runText(x, "c01"), 7, 0);
        due.is("a rope of one digit, where a second one stood", Due.runText(x, "c0"), 1);
        due.is("two orders", Due.runText(x, "e;e"), 2);
        due.is("one of them", Due.runText(x, "e;"), -2002);
        due.is("an hour of two digits", Due.runText(x, "p0@19"), -2005);
        due.is("an hour of one digit", Due.runText(x, "p0@1"), -2004);
    }

    private static void runFails() {
        UnheardBells x = new UnheardBells();
        due.refused(x, "no such rope", Due.runText(x, "v0:1"), 7, 0);
        due.is("the text is empty then", x.account(11), 0);
        due.is("nothing can be undone", x.account(12), 0);
        due.refused(x, "a rope that comes too late", Due.runText(x, "r1;s1-;r1"), 7, 1);
        due.is("no rope came", x.account(0), 0);
        x.rope(1);
        x.move(0, 1);
        due.is("the reason of a call before", x.reason(false), 4);
        due.refused(x, "it is so already", Due.runText(x, "v0:2;v0:2"), 7, 1);
        due.is("its parish", x.ropeOf(0, 0), 1);
        due.refused(x, "nothing waits for n", Due.runText(x, "e;n"), 7, 1);
        due.refused(x, "nothing waits for h", Due.runText(x, "e;e;h"), 7, 2);
        due.refused(x, "less rust", Due.runText(x, "o0-1"), 7, 0);
        due.refused(x, "no pull of the rope", Due.runText(x, "c0"), 7, 0);
        due.refused(x, "an hour that is past", Due.runText(x, "p0@5*1;n;p0@4*1"), 7, 2);
        due.is("the day and the hour", x.account(3) + x.account(2), 0);
    }

    private static void runRanges() {
        for (String order : new String[] {"r4", "r9", "v0:4", "v12:0", "v99:9", "s1+", "s12-", "p1@0*1",
                "p0@24*1", "p0@99*1", "p0@0*0", "c1", "c12", "o0-0", "o1-1", "o12-1"}) {
            UnheardBells x = Due.bells(0);
            due.refused(x, "run of " + order, Due.runText(x, "e;" + order), 7, 1);
            due.is("the day", x.account(3), 0);
        }
    }

    private static void runAllOrNone() {
        UnheardBells x = Due.bells(0, 1);
        x.pull(0, 3, 4);
        x.pull(1, 3, 4);
        x.pull(1, 9, 1);
        due.refused(x, "a long text", Due.runText(x, "r3;v0:2;s1-;p0@4*9;h;n;n;c0"), 7, 7);
        due.is("ropes", x.account(0), 2);
        due.is("the parish", x.ropeOf(0, 0), 0);
        due.is("the sensor", x.ropeOf(1, 1), 1);
        due.is("those that wait", x.account(1), 3);
        due.is("the first of them", x.waiting(0, 0), 0);
        due.is("the hour", x.account(2), 0);
        due.is("pulls that came", x.account(4), 3);
        due.is("answered", x.account(5), 0);
        due.is("missed", x.account(6), 0);
        due.is("the rust", x.account(9), 0);
        due.is("remembered", x.account(10), 0);
        due.is("answered(3)", x.answered(3), 0);
        due.is("changes", x.account(12), 5);
        due.is("undo()", x.undo(), 4);
        due.is("those that wait then", x.account(1), 2);
    }

    private static void runIsOneChange() {
        UnheardBells x = new UnheardBells();
        due.is("run", Due.runText(x, "r1;r2;p0@3*1;n;e"), 5);
        due.is("one change", x.account(12), 1);
        Due.write(x, "e");
        due.is("undo()", x.undo(), 0);
        due.is("no rope is there", x.account(0), 0);
        due.is("the day", x.account(3), 0);
        due.is("the text stays", x.account(11), 1);
    }

    private static void tell() {
        UnheardBells x = Due.bells(0, 0, 0, 1);
        due.is("tell(4)", x.tell(4), Due.NONE);
        due.is("tell(-1)", x.tell(-1), Due.NONE);
        told(x, 3, "3:1");
        Due.pullAndRing(x, 3, 0, 9);
        Due.pullAndRing(x, 3, 1, 9);
        x.pull(3, 9, 2);
        x.pull(0, 8, 8);
        x.pull(3, 7, 5);
        told(x, 3, "3:1~~@7*5@9*2");
        x.sensor(3, 0);
        told(x, 3, "3:1#~~@7*5@9*2");
        told(x, 0, "0:0@8*8");
        due.is("tell(9) leaves the line", x.tell(9), Due.NONE);
        due.text("the line", Due.lineOf(x), "0:0@8*8");
        UnheardBells y = Due.bells(0, 0, 0, 0, 0, 0, 0, 0, 0, 0, 0, 3);
        for (int hour = 0; hour < 9; hour++) {
            Due.pullAndRing(y, 11, hour, 9);
        }
        y.sensor(11, 0);
        StringBuilder longest = new StringBuilder("11:3#~~~~~~~~~");
        for (int pull = 0; pull < 16; pull++) {
            y.pull(11, 23, 9);
            longest.append("@23*9");
        }
        told(y, 11, longest.toString());
        told(y, 10, "10:0");
    }

    private static void told(UnheardBells x, int rope, String want) {
        due.is("tell(" + rope + ")", x.tell(rope), want.length());
        due.text("the line of tell(" + rope + ")", Due.lineOf(x), want);
        due.is("behind the line", x.character(want.length()), Due.NONE);
    }

    private static void tellDay() {
        UnheardBells x = Due.bells(0, 1, 2, 3);
        due.is("tellDay() without answers", x.tellDay(), 0);
        due.is("character(0)", x.character(0), Due.NONE);
        Due.pullAndRing(x, 1, 7, 5);
        due.is("tellDay()", x.tellDay(), 3);
        Due.pullAndRing(x, 0, 9, 5);
        Due.pullAndRing(x, 3, 9, 5);
        due.is("tellDay()", x.tellDay(), 7);
        due.text("the line", Due.lineOf(x), "7=1 9=0");
        Due.pullAndRing(x, 2, 10, 5);
        Due.pullAndRing(x, 3, 23, 5);
        due.is("tellDay()", x.tellDay(), 17);
        due.text("the line", Due.lineOf(x), "7=1 9=0 10=2 23=3");
        x.tell(0);
        due.text("the line of tell", Due.lineOf(x), "0:0~");
        x.end();
        due.is("tellDay() on the next day", x.tellDay(), 0);
        due.text("the line", Due.lineOf(x), "");
        tellLongestDay();
    }

    private static void tellLongestDay() {
        UnheardBells x = Due.bells(0, 0, 0);
        StringBuilder want = new StringBuilder("0=0");
        for (int hour = 0; hour < 24; hour++) {
            Due.pullAndRing(x, hour % 3, hour, 9);
            if (hour > 0) {
                want.append(' ').append(hour).append("=0");
            }
        }
        due.is("tellDay() of a full day", x.tellDay(), want.length());
        due.text("the line of a full day", Due.lineOf(x), want.toString());
    }

    private static void character() {
        UnheardBells x = Due.bells(2);
        due.is("character(0) at first", x.character(0), Due.NONE);
        x.tell(0);
        due.is("character(0)", x.character(0), '0');
        due.is("character(1)", x.character(1), ':');
        due.is("character(2)", x.character(2), '2');
        due.is("character(3)", x.character(3), Due.NONE);
        due.is("character(-1)", x.character(-1), Due.NONE);
        x.move(0, 1);
        x.undo();
        x.undo();
        due.text("the line stays by undo", Due.lineOf(x), "0:2");
        x.save();
        x.restore();
        due.text("the line stays by restore", Due.lineOf(x), "0:2");
    }
}
