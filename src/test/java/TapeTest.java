/** Promises 1 to 3: a new object, feed, end; and 35, what was refused of them. */
public final class TapeTest {
    public static void main(String[] args) {
        Check c = new Check("TapeTest");
        newObject(c);
        feeding(c);
        ending(c);
        bytesHighestFirst(c);
        c.close();
    }

    private static void newObject(Check c) {
        ForgottenFeast x = new ForgottenFeast();
        int[] has = {0, 0, 0, 1, 0, 0, 0, 0, 0, 0, 0, 0};
        for (int what = 0; what < has.length; what++) {
            c.due("has(" + what + ")", x.has(what), has[what]);
        }
        c.due("has(-1)", x.has(-1), -1);
        c.due("has(12)", x.has(12), -1);
        c.due("fault(0)", x.fault(0), 0);
        c.due("fault(1)", x.fault(1), -1);
        for (int what = 0; what < 6; what++) {
            c.due("status(" + what + ")", x.status(what), 0);
        }
        c.due("status(-1)", x.status(-1), -1);
        c.due("status(6)", x.status(6), -1);
        c.due("octet(0)", x.octet(0), -1);
        c.due("thought(0)", x.thought(0), -1);
        c.due("enough(0)", x.enough(0), -1);
        c.due("go(1)", x.go(1), -1);
        c.due("chance(1)", x.chance(1), -1);
        c.due("undo()", x.undo(), false);
        c.due("NONE", ForgottenFeast.NONE, -1);
        c.due("NOTHING", ForgottenFeast.NOTHING, -1000000000000000L);
    }

    private static void feeding(Check c) {
        ForgottenFeast x = new ForgottenFeast();
        for (int i = 1; i <= 80; i++) {
            c.due("feed " + i, x.feed(1, 2, 3, 4, 5), 20 * i);
        }
        c.due("feed 81", x.feed(1, 2, 3, 4, 5), -1);
        c.due("status(0)", x.status(0), 1);
        c.due("end(1600)", x.end(1600), true);
        c.due("end(1581)", x.end(1581), true);
        c.due("feed beyond 1600", x.feed(0, 0, 0, 0, 0), -1);
        c.due("end(1580)", x.end(1580), true);
        c.due("feed to 1600", x.feed(0, 0, 0, 0, 0), 1600);
        c.due("status(0)", x.status(0), 2);
    }

    private static void ending(Check c) {
        ForgottenFeast x = new ForgottenFeast();
        c.due("end(0)", x.end(0), true);
        c.due("end(1)", x.end(1), false);
        c.due("end(-1)", x.end(-1), false);
        c.due("end(MIN)", x.end(Integer.MIN_VALUE), false);
        c.due("end(MAX)", x.end(Integer.MAX_VALUE), false);
        c.due("status(0)", x.status(0), 4);
        x.feed(0, 0, 0, 0, 0);
        c.due("end(21)", x.end(21), false);
        c.due("end(7)", x.end(7), true);
        c.due("end(8)", x.end(8), false);
        c.due("feed", x.feed(0, 0, 0, 0, 0), 27);
    }

    private static void bytesHighestFirst(Check c) {
        ForgottenFeast x = new ForgottenFeast();
        // "days 5;", the five numbers in one row
        x.feed(0x64617973, 0x20353b20, 0x20202020, 0x20202020, 0x0a0a2020);
        c.due("town()", x.town(), 1);
        c.due("has(0)", x.has(0), 5);
        c.due("end(1), the tape is gone", x.end(1), false);
        // a byte of 255 in the middle
        x.feed(0x64617973, 0x2035ff3b, 0, 0, 0);
        x.end(8);
        c.due("town()", x.town(), -1);
        c.due("fault(0)", x.fault(0), 1);
        c.due("fault(1)", x.fault(1), 6);
    }
}
