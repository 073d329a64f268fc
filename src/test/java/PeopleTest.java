/** Promises 6 to 9: what there is, letters, people, days. */
public final class PeopleTest {
    public static void main(String[] args) {
        Check c = new Check("PeopleTest");
        letters(c);
        people(c);
        days(c);
        frosts(c);
        c.close();
    }

    private static void letters(Check c) {
        ForgottenFeast x = Check.of("days 5;person azbycx mind 5 asks 7;person q mind 1 asks 1;");
        int[] letters = {1, 26, 2, 25, 3, 24};
        for (int k = 0; k < 6; k++) {
            c.due("letter(0, " + k + ")", x.letter(0, k), letters[k]);
            c.due("letter(1, " + k + ")", x.letter(1, k), k == 0 ? 17 : 0);
        }
        c.due("letter(0, 6)", x.letter(0, 6), -1);
        c.due("letter(0, -1)", x.letter(0, -1), -1);
        c.due("letter(2, 0)", x.letter(2, 0), -1);
        c.due("letter(-1, 0)", x.letter(-1, 0), -1);
        c.due("letter(MAX, MAX)", x.letter(Integer.MAX_VALUE, Integer.MAX_VALUE), -1);
    }

    private static void people(Check c) {
        ForgottenFeast x = Check.of("days 5;person a mind 99 asks 0;person b mind 1 asks 99;person d mind 50 asks 1;"
            + "reminds a b;reminds a d;reminds d a;told b on 1;told b on 5;told a on 3;");
        int[][] due = {{99, 0, 0, 0, 6, 4, 1}, {1, 99, 0, 0, 0, 1, 2}, {50, 1, 0, 0, 1, 1, 0}};
        for (int p = 0; p < 3; p++) {
            for (int what = 0; what < 7; what++) {
                c.due("person(" + p + ", " + what + ")", x.person(p, what), due[p][what]);
            }
        }
        c.due("person(0, 7)", x.person(0, 7), -1);
        c.due("person(0, -1)", x.person(0, -1), -1);
        c.due("person(3, 0)", x.person(3, 0), -1);
        c.due("person(-1, 0)", x.person(-1, 0), -1);
        x.dies(2);
        c.due("dead", x.person(2, 3), 1);
        c.due("whom a reminds", x.person(0, 4), 6);
        c.due("has(1)", x.has(1), 3);
        c.due("has(2)", x.has(2), 2);
        x.go(1);
        c.due("ago of one who thought", x.person(1, 2), 0);
        c.due("ago of another", x.person(0, 2), 1);
        c.due("ago of a dead one", x.person(2, 2), 1);
    }

    private static void days(Check c) {
        ForgottenFeast x = Check.of("days 6;person a mind 9 asks 4;person b mind 1 asks 5;"
            + "told b on 1;told a on 6;told b on 6;frost 2 for 3;");
        c.due("day(1, 0)", x.day(1, 0), 2);
        c.due("day(6, 0)", x.day(6, 0), 3);
        c.due("day(5, 0)", x.day(5, 0), 0);
        c.due("day(0, 0)", x.day(0, 0), -1);
        c.due("day(7, 0)", x.day(7, 0), -1);
        c.due("day(-5, 2)", x.day(-5, 2), -1);
        c.due("day(1, 3)", x.day(1, 3), -1);
        c.due("day(1, -1)", x.day(1, -1), -1);
        x.bribe(1, 4);
        x.bribe(0, 4);
        c.due("day(4, 1)", x.day(4, 1), 3);
        c.due("day(5, 1)", x.day(5, 1), 0);
        c.due("has(7)", x.has(7), 2);
        c.due("has(8)", x.has(8), 9);
        x.tell(1, 5);
        c.due("day(5, 0)", x.day(5, 0), 2);
        for (int d = 1; d <= 6; d++) {
            c.due("frost on " + d, x.day(d, 2), d >= 2 && d <= 4 ? 1 : 0);
        }
    }

    private static void frosts(Check c) {
        ForgottenFeast x = Check.of("days 9;frost 8 for 30;frost 1 for 1;frost 1 for 2;");
        int[] due = {0, 1, 1, 0, 0, 0, 0, 0, 1, 1};
        for (int d = 1; d <= 9; d++) {
            c.due("frost on " + d, x.day(d, 2), due[d]);
        }
    }
}
