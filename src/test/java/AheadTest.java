/** Promises 11 to 17: DAYS AHEAD, the first FEAST and FAST, hangs, sure, slips, costs, cheapest. */
public final class AheadTest {
    private static final String THREE = "days 6;person a mind 3 asks 10;person b mind 5 asks 4;person d mind 7 asks 5;";

    public static void main(String[] args) {
        Check c = new Check("AheadTest");
        later(c);
        first(c);
        hangsAndSure(c);
        slips(c);
        costs(c);
        cheapest(c);
        nothingChanges(c);
        withoutTown(c);
        c.close();
    }

    private static void later(Check c) {
        ForgottenFeast x = Check.of(THREE + "told a on 1;told b on 1;told d on 3;reminds a d;");
        int[][] due = {{3, 7, 1, 1, 0}, {0, 0, 1, 2, 1}, {4, 4, 1, 3, 0}, {0, 0, 1, 4, 0}, {0, 0, 1, 5, 0},
            {0, 0, 1, 6, 0}, {3, 7, 2, 1, 0}, {0, 0, 2, 2, 1}};
        for (int n = 1; n <= due.length; n++) {
            for (int what = 0; what < 5; what++) {
                c.due("later(" + n + ", " + what + ")", x.later(n, what), due[n - 1][what]);
            }
        }
        c.due("later(1, 5)", x.later(1, 5), -1);
        c.due("later(1, -1)", x.later(1, -1), -1);
        c.due("later(0, 0)", x.later(0, 0), -1);
        c.due("later(-1, 0)", x.later(-1, 0), -1);
        c.due("later(121, 0)", x.later(121, 0), -1);
        c.due("later(120, 2)", x.later(120, 2), 20);
        c.due("later(120, 3)", x.later(120, 3), 6);
        x.bribe(0, 1);
        c.due("a is bribed", x.later(1, 0), 2);
        c.due("a is bribed", x.later(1, 1), 2);
        c.due("for this YEAR alone", x.later(7, 0), 3);
        x.dies(1);
        c.due("b is dead", x.later(7, 0), 1);
        c.due("nobody on DAY 1", x.later(1, 4), 1);
        c.due("so DAY 2 is none", x.later(2, 4), 0);
    }

    private static void first(Check c) {
        ForgottenFeast x = Check.of(THREE + "told a on 1;told b on 1;told b on 2;told d on 3;reminds b d;");
        c.due("first(0)", x.first(0), 4);
        c.due("first(1)", x.first(1), 3);
        c.due("first(2)", x.first(2), -1);
        c.due("first(-1)", x.first(-1), -1);
        x.go(4);
        c.due("first(0)", x.first(0), 6);
        c.due("first(1)", x.first(1), 5);
        x = Check.of(THREE + "thinks all;");
        c.due("never a FEAST", x.first(0), -1);
        c.due("never a FAST", x.first(1), -1);
        x.dies(0);
        x.dies(1);
        c.due("a FAST at once", x.first(1), 1);
        // 121 is beyond what is AHEAD: the FEAST is on DAY 31 of YEAR 2.
        x = Check.of("days 90;person a mind 3 asks 1;thinks not[day=31 and year=2];");
        c.due("in 121 DAYS", x.first(0), -1);
        x.go(1);
        c.due("in 120 DAYS", x.first(0), 120);
    }

    private static void hangsAndSure(Check c) {
        ForgottenFeast x = Check.of(THREE + "told a on 1;told a on 2;told b on 2;told d on 4;reminds a b;reminds b d;");
        c.due("hangs(1)", x.hangs(1), 1);
        c.due("hangs(2)", x.hangs(2), 0);
        c.due("hangs(3), nobody thinks", x.hangs(3), 0);
        c.due("hangs(4)", x.hangs(4), 4);
        c.due("hangs(0)", x.hangs(0), -1);
        c.due("hangs(121)", x.hangs(121), -1);
        c.due("sure(1)", x.sure(1), 0);
        c.due("sure(2)", x.sure(2), 1);
        c.due("sure(6)", x.sure(6), 1);
        c.due("sure(120)", x.sure(120), 20);
        c.due("sure(0)", x.sure(0), -1);
        c.due("sure(121)", x.sure(121), -1);
        x.bribe(1, 2);
        c.due("hangs(2), b bribed", x.hangs(2), 1);
        c.due("sure(2)", x.sure(2), 0);
        c.due("sure(8), the next YEAR", x.sure(8), 1);
    }

    private static void slips(Check c) {
        StringBuilder town = new StringBuilder("days 9;");
        for (int i = 0; i < 8; i++) {
            town.append("person ").append((char) ('a' + i)).append(" mind ").append(i + 1).append(" asks 1;");
        }
        town.append("thinks mind<day;");
        long[] of99 = {1000000, 990000, 980100, 970299, 960596, 950990, 941480, 932065, 922744};
        long[] of37 = {1000000, 370000, 136900, 50653, 18741, 6934, 2565, 949, 351};
        for (int n = 1; n <= 9; n++) {
            c.due("slips 99, " + n, Check.of(town + "slips 99;").slips(n), of99[n - 1]);
            c.due("slips 37, " + n, Check.of(town + "slips 37;").slips(n), of37[n - 1]);
            c.due("slips 100, " + n, Check.of(town + "slips 100;").slips(n), 1000000);
            c.due("slips 0, " + n, Check.of(town + "slips 0;").slips(n), n == 1 ? 1000000 : 0);
            c.due("without slips, " + n, Check.of(town.toString()).slips(n), n == 1 ? 1000000 : 0);
        }
        ForgottenFeast x = Check.of(town + "slips 50;slips 10;");
        c.due("the last counts", x.slips(3), 10000);
        c.due("slips(0)", x.slips(0), -1);
        c.due("slips(121)", x.slips(121), -1);
        // who is reminded does not count
        x = Check.of(THREE + "told a on 1;reminds a b;slips 20;");
        c.due("slips(1)", x.slips(1), 200000);
    }

    private static void costs(Check c) {
        ForgottenFeast x = Check.of(THREE + "told a on 1;told b on 1;told d on 3;reminds a d;");
        c.due("costs(1)", x.costs(1), 14);
        c.due("costs(2)", x.costs(2), 0);
        c.due("costs(3)", x.costs(3), 5);
        c.due("costs(0)", x.costs(0), -1);
        c.due("costs(121)", x.costs(121), -1);
        x.bribe(0, 1);
        c.due("costs(1), a bribed", x.costs(1), 4);
        c.due("costs(7)", x.costs(7), 14);
    }

    private static void cheapest(Check c) {
        ForgottenFeast x = Check.of(THREE + "thinks mind=3 and day<3 or mind=5 and day>2 and day<5 or mind=7;");
        // 15, 15, 9, 9, 5, 5
        c.due("cheapest(0)", x.cheapest(0), 5);
        c.due("cheapest(1)", x.cheapest(1), 5);
        c.due("cheapest(2)", x.cheapest(2), -1);
        c.due("cheapest(-1)", x.cheapest(-1), -1);
        x.bribe(2, 3);
        c.due("cheapest(0)", x.cheapest(0), 3);
        c.due("cheapest(1)", x.cheapest(1), 4);
        x.go(4);
        c.due("cheapest(0)", x.cheapest(0), 5);
        x.go(2);
        c.due("no DAY of this YEAR is left", x.cheapest(0), -1);
        x.go(1);
        c.due("cheapest(1) of the next YEAR", x.cheapest(1), 5);
        // a FEAST is the last one looked at, though DAYS behind it would cost as little
        x = Check.of(THREE + "thinks day<3 or day>4;");
        c.due("cheapest(0)", x.cheapest(0), 3);
        c.due("cheapest(1)", x.cheapest(1), 0);
        x.go(3);
        c.due("the FEAST has been", x.cheapest(0), -1);
        x = Check.of("days 5;person a mind 1 asks 0;person b mind 2 asks 3;thinks mind=2 and day<3 or mind=1 and day<5;");
        c.due("coins of 0, first of like ones", x.cheapest(0), 3);
        c.due("coins of 0", x.cheapest(1), 0);
    }

    private static void nothingChanges(Check c) {
        ForgottenFeast x = Check.of(THREE + "told a on 1;told b on 2;");
        x.bribe(0, 3);
        int[] before = Check.image(x);
        x.later(120, 0);
        x.sure(120);
        x.first(0);
        x.cheapest(0);
        x.enough(0);
        x.turnsOf(2);
        x.thought(0);
        Check.ask(x, "often all", 120);
        int[] after = Check.image(x);
        c.due("length", after.length, before.length);
        for (int i = 0; i < before.length; i++) {
            c.due("octet " + i, after[i], before[i]);
        }
        c.due("has(9)", x.has(9), 0);
        c.due("has(11)", x.has(11), 1);
    }

    private static void withoutTown(Check c) {
        ForgottenFeast x = new ForgottenFeast();
        c.due("later(1, 0)", x.later(1, 0), -1);
        c.due("first(0)", x.first(0), -1);
        c.due("hangs(1)", x.hangs(1), -1);
        c.due("sure(1)", x.sure(1), -1);
        c.due("slips(1)", x.slips(1), -1);
        c.due("costs(1)", x.costs(1), -1);
        c.due("cheapest(1)", x.cheapest(1), -1);
    }
}
