/** Promises 32 to 34: image, octet, on. */
public final class ImageTest {
    private static final String TOWN = "days 9;person a mind 3 asks 10;person b mind 5 asks 4;told b on 1;told a on 9;told a on 1;";

    public static void main(String[] args) {
        Check c = new Check("ImageTest");
        written(c);
        readAgain(c);
        wrongOnes(c);
        edges(c);
        fullest(c);
        c.close();
    }

    private static void same(Check c, String what, int[] got, int... want) {
        c.due(what + ": length", got.length, want.length);
        for (int i = 0; i < Math.min(got.length, want.length); i++) {
            c.due(what + ": byte " + i, got[i], want[i]);
        }
    }

    private static void written(Check c) {
        ForgottenFeast x = new ForgottenFeast();
        same(c, "without a town", Check.image(x), 0, 1, 0, 0, 0, 0, 0, 0, 0, 174);
        c.due("octet(10)", x.octet(10), -1);
        c.due("octet(-1)", x.octet(-1), -1);
        x = Check.of(TOWN);
        c.due("octet(0) ahead of any image", x.octet(0), -1);
        same(c, "at first", Check.image(x),
            Check.sealed(0, 1, 0, 0, 0, 0, 0, 0, 0, 0, 0, 3, 1, 0, 1, 1, 9, 0, 0, 0));
        x.go(4);
        x.bribe(1, 9);
        x.bribe(0, 9);
        x.bribe(1, 6);
        x.dies(1);
        c.due("the latest image", x.octet(2), 0);
        same(c, "later", Check.image(x),
            Check.sealed(0, 1, 4, 2, 0, 0, 18, 2, 0, 2, 1, 3, 1, 0, 1, 1, 9, 0, 3, 6, 1, 9, 0, 9, 1, 0));
    }

    private static void readAgain(Check c) {
        ForgottenFeast x = Check.of(TOWN);
        x.go(4);
        x.bribe(1, 9);
        x.dies(1);
        x.tell(1, 5);
        int[] image = Check.image(x);
        ForgottenFeast y = Check.of(TOWN);
        y.go(30);
        y.tell(0, 2);
        Check.see(y, 0, 1);
        c.due("on()", Check.on(y, image), true);
        c.due("the tape is gone", y.end(1), false);
        same(c, "as it tells", Check.image(y), image);
        int[] has = {9, 2, 1, 1, 4, 2, 4, 1, 4, 0, 1, 0};
        for (int what = 0; what < has.length; what++) {
            c.due("has(" + what + ")", y.has(what), has[what]);
        }
        c.due("undo()", y.undo(), false);
        c.due("day(9, 1)", y.day(9, 1), 2);
        c.due("day(2, 0)", y.day(2, 0), 0);
        c.due("day(5, 0)", y.day(5, 0), 2);
        c.due("first(0)", y.first(0), x.first(0));
        y.go(3);
        c.due("undo()", y.undo(), true);
        same(c, "undone", Check.image(y), image);
    }

    private static void wrongOnes(Check c) {
        ForgottenFeast x = new ForgottenFeast();
        c.due("without a town", Check.on(x, 0, 1, 0, 0, 0, 0, 0, 0, 0, 174), false);
        c.due("the tape is gone", x.end(1), false);
        c.due("status(5)", x.status(5), 1);
        x = Check.of(TOWN);
        x.go(2);
        int[] before = Check.image(x);
        int[][] wrong = {
            {0, 0, 1, 0, 0, 0, 0, 0, 0, 0, 0, 0, 0, 0},
            {3, 232, 1, 0, 0, 0, 0, 0, 0, 0, 0, 0, 0, 0},
            {0, 1, 10, 0, 0, 0, 0, 0, 0, 0, 0, 0, 0, 0},
            {0, 2, 0, 0, 0, 0, 0, 0, 0, 0, 0, 0, 0, 0},
            {0, 1, 3, 4, 0, 0, 0, 0, 0, 0, 0, 0, 0, 0},
            {0, 1, 3, 0, 15, 66, 64, 0, 0, 0, 0, 0, 0, 0},
            {0, 1, 3, 0, 0, 0, 0, 100, 0, 0, 0, 0, 0, 0},
            {0, 1, 3, 0, 0, 0, 0, 0, 2, 0, 0, 0, 0, 0},
            {0, 1, 3, 0, 0, 0, 0, 0, 0, 255, 0, 0, 0, 0},
            {0, 1, 3, 0, 0, 0, 0, 0, 0, 0, 255, 0, 0, 0},
            {0, 1, 3, 0, 0, 0, 0, 0, 0, 0, 0, 1, 0, 0, 0, 0},
            {0, 1, 3, 0, 0, 0, 0, 0, 0, 0, 0, 1, 10, 0, 0, 0},
            {0, 1, 3, 0, 0, 0, 0, 0, 0, 0, 0, 1, 1, 2, 0, 0},
            {0, 1, 3, 0, 0, 0, 0, 0, 0, 0, 0, 2, 1, 1, 1, 0, 0, 0},
            {0, 1, 3, 0, 0, 0, 0, 0, 0, 0, 0, 2, 2, 0, 1, 1, 0, 0},
            {0, 1, 3, 0, 0, 0, 0, 0, 0, 0, 0, 2, 1, 1, 1, 1, 0, 0},
            {0, 1, 3, 0, 0, 0, 0, 0, 0, 0, 0, 0, 1, 3, 0, 0},
            {0, 1, 3, 0, 0, 0, 0, 0, 0, 0, 0, 0, 1, 10, 0, 0},
            {0, 1, 3, 0, 0, 0, 0, 0, 0, 0, 0, 0, 1, 4, 2, 0},
            {0, 1, 3, 0, 0, 0, 0, 0, 0, 0, 0, 0, 2, 4, 1, 4, 1, 0},
            {0, 1, 3, 0, 0, 0, 0, 0, 0, 0, 0, 0, 2, 5, 0, 4, 1, 0},
            {0, 1, 3, 0, 0, 0, 0, 0, 0, 0, 0, 0, 0, 0, 0},
            {0, 1, 3, 0, 0, 0, 0, 0, 0, 0, 0, 0, 1, 4, 0},
            {0, 1, 3, 0, 0, 0, 0, 0, 0, 0, 0, 200, 0, 0},
            {0, 1, 3, 0, 0, 0, 0, 0, 0, 0, 0, 0, 0},
            {0, 1, 3, 0, 0, 0, 0, 0, 0, 0},
            {0},
            {0, 0},
        };
        for (int[] w : wrong) {
            c.due("on() of " + java.util.Arrays.toString(w), Check.on(x, Check.sealed(w)), false);
        }
        c.due("nothing", Check.on(x), false);
        int[] image = before.clone();
        image[image.length - 1] ^= 1;
        c.due("a wrong last byte", Check.on(x, image), false);
        image = before.clone();
        image[7] ^= 1;
        c.due("a byte changed", Check.on(x, image), false);
        c.due("status(5)", x.status(5), wrong.length + 3);
        same(c, "all stays", Check.image(x), before);
        c.due("has(9)", x.has(9), 2);
        c.due("has(11)", x.has(11), 1);
    }

    private static void edges(Check c) {
        ForgottenFeast x = Check.of(TOWN);
        int[][] right = {
            {3, 231, 9, 9, 15, 66, 63, 99, 1, 99, 1, 0, 0, 0},
            {0, 1, 0, 0, 0, 0, 0, 0, 0, 0, 0, 0, 1, 1, 0, 0},
            {0, 1, 1, 1, 0, 0, 0, 0, 0, 0, 0, 2, 1, 0, 9, 1, 2, 2, 0, 9, 1, 0},
            {2, 0, 1, 0, 1, 0, 0, 0, 0, 0, 0, 0, 0, 0},
            {0, 5, 8, 0, 0, 0, 0, 0, 1, 0, 0, 2, 1, 0, 1, 1, 2, 9, 0, 9, 1, 0},
        };
        for (int[] r : right) {
            int[] image = Check.sealed(r);
            c.due("on() of " + java.util.Arrays.toString(r), Check.on(x, image), true);
            same(c, "as it tells", Check.image(x), image);
        }
        c.due("status(5)", x.status(5), 0);
        c.due("has(3)", x.has(3), 5);
        c.due("has(2)", x.has(2), 1);
        c.due("both are bribed", x.later(1, 1), 0);
        Check.on(x, Check.sealed(right[0]));
        c.due("has(8)", x.has(8), 999999);
        c.due("has(3)", x.has(3), 999);
        c.due("person(1, 2)", x.person(1, 2), 99);
    }

    private static void fullest(Check c) {
        String town = "days 90;";
        for (int i = 0; i < 8; i++) {
            town += "person " + (char) ('a' + i) + " mind 5 asks 1;";
        }
        ForgottenFeast x = Check.of(town);
        for (int i = 0; i < 30; i++) {
            x.tell(i % 8, 90 - i / 8);
            x.bribe(i % 8, 90 - i / 8);
        }
        int[] image = Check.image(x);
        c.due("length", image.length, 146);
        ForgottenFeast y = Check.of(town);
        c.due("on()", Check.on(y, image), true);
        same(c, "as it tells", Check.image(y), image);
        int[] more = new int[image.length + 2];
        System.arraycopy(image, 0, more, 0, 23);
        more[23] = 31;
        more[24] = 1;
        more[25] = 0;
        System.arraycopy(image, 24, more, 26, image.length - 24);
        c.due("31 told off", Check.on(y, Check.sealed(more)), false);
        System.arraycopy(image, 0, more, 0, 84);
        more[84] = 31;
        more[85] = 1;
        more[86] = 0;
        System.arraycopy(image, 85, more, 87, image.length - 85);
        c.due("31 bribes", Check.on(y, Check.sealed(more)), false);
    }
}
