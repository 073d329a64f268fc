/** Terms II and promises 10 and 24: how a DAY comes, what is KEPT, go. */
public final class DaysTest {
    private static final String THREE = "days 6;person a mind 3 asks 1;person b mind 5 asks 2;person d mind 7 asks 3;";

    public static void main(String[] args) {
        Check c = new Check("DaysTest");
        withoutRules(c);
        feastAndAgo(c);
        remindersByNumbers(c);
        firstReminderCounts(c);
        partsOfThinks(c);
        feastPart(c);
        arithmetic(c);
        agoIsHeldAt99(c);
        rowsKept(c);
        yearsEnd(c);
        wrongCalls(c);
        nobody(c);
        c.close();
    }

    /** Told off without thinks, heard without hears. */
    private static void withoutRules(Check c) {
        ForgottenFeast x = Check.of(THREE + "told b on 1;reminds b a;reminds a d;told d on 2;");
        c.due("go(1)", x.go(1), 0);
        c.due("kept(0, 2)", x.kept(0, 2), 3);
        c.due("go(1)", x.go(1), 0);
        c.due("kept(1, 2)", x.kept(1, 2), 1);
        c.due("go(1), nobody thinks", x.go(1), 1);
        c.due("has(5)", x.has(5), 3);
        c.due("go(3), one FEAST a YEAR", x.go(3), 0);
        c.due("kept(3, 2)", x.kept(3, 2), 0);
        c.due("kept(3, 3)", x.kept(3, 3), 0);
        c.due("go(1), the next YEAR", x.go(1), 0);
        c.due("has(3)", x.has(3), 2);
        c.due("has(4)", x.has(4), 1);
        c.due("has(5)", x.has(5), 0);
        c.due("go(12)", x.go(12), 2);
        c.due("has(3)", x.has(3), 4);
        c.due("has(5)", x.has(5), 0);
    }

    private static void feastAndAgo(Check c) {
        ForgottenFeast x = Check.of(THREE + "told b on 1;told b on 2;told a on 4;");
        x.go(2);
        c.due("ago of a", x.person(0, 2), 2);
        c.due("ago of b", x.person(1, 2), 0);
        c.due("day 3 is the FEAST", x.go(1), 1);
        c.due("ago of a", x.person(0, 2), 0);
        c.due("ago of d", x.person(2, 2), 0);
        x.go(2);
        c.due("ago of a", x.person(0, 2), 1);
        c.due("ago of d, nobody thought, but it was no FEAST", x.person(2, 2), 2);
    }

    /** Within one round who was reminded reminds those behind him; those ahead of him in the next round. */
    private static void remindersByNumbers(Check c) {
        ForgottenFeast x = Check.of(THREE + "told d on 1;reminds d b;reminds b a;told a on 2;reminds a b;hears other>4;");
        c.due("d, then b, then a", x.later(1, 1), 7);
        c.due("a alone: b does not heed him", x.later(2, 1), 1);
        x.dies(1);
        c.due("b is dead", x.later(1, 1), 4);
        x.undo();
        x.bribe(1, 1);
        c.due("b is bribed", x.later(1, 1), 4);
    }

    private static void firstReminderCounts(Check c) {
        // d is reminded by a (3) and b (5): a counts, and is not heeded; without a it is b.
        String rest = "reminds a d;reminds b d;hears other>4;";
        ForgottenFeast x = Check.of(THREE + rest + "told a on 1;told b on 1;told b on 2;");
        c.due("a counts", x.later(1, 1), 3);
        c.due("b counts", x.later(2, 1), 6);
        // a is reminded by d in the first round, by numbers ahead of b: so a, not d, counts for b.
        x = Check.of(THREE + "told d on 1;reminds d a;reminds d b;reminds a b;hears mind=3 or other=7;");
        c.due("a counts for b by then", x.later(1, 1), 5);
        x = Check.of(THREE + "told d on 1;reminds d a;reminds d b;reminds a b;hears mind=3 or other=3;");
        c.due("a is heeded by b", x.later(1, 1), 7);
    }

    private static void partsOfThinks(Check c) {
        ForgottenFeast x = Check.of(THREE + "frost 2 for 2;thinks frost=1 and mind>4 or day=1 and mind=3 or year=2 and mind=7;");
        int[] due = {1, 6, 6, 0, 0, 0, 5, 6, 6, 4};
        for (int n = 1; n <= due.length; n++) {
            c.due("later(" + n + ", 0)", x.later(n, 0), due[n - 1]);
        }
        x = Check.of(THREE + "told a on 2;told b on 3;thinks told=0 and day<4;");
        c.due("not told off", x.later(2, 0), 6);
        c.due("not told off", x.later(3, 0), 5);
        c.due("not told off", x.later(4, 0), 0);
        x = Check.of(THREE + "thinks ago+1=mind;");
        int[] ago = {0, 0, 0, 0, 0, 0, 0};
        // DAY 1 is the FEAST: ago 0 behind it, 1 behind DAY 2, 2 behind DAY 3: a on DAY 4, b on DAY 6.
        ago[3] = 1;
        ago[5] = 2;
        ago[6] = 1;
        for (int n = 1; n <= 7; n++) {
            c.due("later(" + n + ", 0) by ago", x.later(n, 0), ago[n - 1]);
        }
    }

    private static void feastPart(Check c) {
        ForgottenFeast x = Check.of(THREE + "thinks feast=1 and mind=5 or day=1 and year=1 and mind=7;");
        c.due("DAY 1", x.later(1, 0), 4);
        c.due("DAY 2 is the FEAST, it has not been ahead of it", x.later(2, 0), 0);
        c.due("the FEAST", x.later(2, 4), 1);
        c.due("DAY 3", x.later(3, 0), 2);
        c.due("DAY 6", x.later(6, 0), 2);
        c.due("DAY 1 of the next YEAR, whose FEAST has not been", x.later(7, 0), 0);
        c.due("its FEAST", x.later(7, 4), 1);
        c.due("DAY 2 of it", x.later(8, 0), 2);
    }

    private static void arithmetic(Check c) {
        String[] hold = {
            "1+2*3=7", "(1+2)*3=9", "10-3-2=5", "20/3/2=3", "2*7/3=4", "7/2*2=6", "(0-7)/2=0-4", "7/(0-2)=0-4",
            "(0-7)/(0-2)=3", "5/0=0", "0/5=0", "9999*9999=1000*1000", "9999*9999-1=1000*1000-1",
            "9999*9999+9999*9999=1000*1000", "0-9999*9999-9999*9999=0-1000*1000", "9999*(0-9999)=0-1000*1000",
            "(0-9999)*(0-9999)=1000*1000", "9999*9999/1000=1000", "1000*1000+1-1=1000*1000-1", "min(3,2)=2",
            "max(3,2+2)=4", "min(1,2)+max(3,4)*2=9", "min(max(1,2),3)=2", "not 1=2", "not not all",
            "1=2 and 1=2 or all", "all or 1=2 and 1=2", "not[1=1 and 1=2]", "not 1=2 and 1=1", "[1=2 or all]and all",
            "1<2 and 2>1 and not 2<2 and not 2>2", "1-2<0", "1=2 or 1=3 or 1=1", "all and all and not 1=2",
            "1-2-3*2=0-7", "2*3-1=5", "100/7*7+100-100/7*7=100", "0012=12"};
        String[] fail = {
            "1=2", "not all", "all and 1=2", "1=2 or 2=1", "not 1=1 or 1=2", "[all or 1=1]and 1=2", "not[1=1 or 1=2]",
            "1<1", "1>1", "9999*9999=9999*9999-1"};
        for (String test : hold) {
            c.due(test, Check.of("days 5;person a mind 3 asks 1;thinks " + test + ";").later(1, 0), 1);
            c.due("hears " + test, Check.of("days 5;person a mind 3 asks 1;person b mind 4 asks 1;told a on 1;"
                + "reminds a b;hears " + test + ";").later(1, 1), 3);
        }
        for (String test : fail) {
            c.due(test, Check.of("days 5;person a mind 3 asks 1;thinks " + test + ";").later(1, 0), 0);
        }
    }

    private static void agoIsHeldAt99(Check c) {
        ForgottenFeast x = Check.of("days 90;person a mind 3 asks 1;person b mind 3 asks 1;thinks mind=3 and year>0 and day>0 and told=1;"
            + "told a on 1;");
        Check.on(x, Check.sealed(0, 1, 0, 0, 0, 0, 0, 99, 0, 98, 0, 1, 1, 0, 0, 0));
        c.due("ago", x.person(1, 2), 98);
        x.go(1);
        c.due("ago", x.person(0, 2), 0);
        c.due("ago", x.person(1, 2), 99);
        x.undo();
        x.dies(0);
        x.dies(1);
        c.due("the FEAST at once", x.go(1), 1);
        c.due("all thought of it behind the FEAST", x.person(1, 2), 0);
        x = Check.of("days 90;person a mind 3 asks 1;person b mind 3 asks 1;thinks mind=3 and feast=0 and told=1;told a on 1;");
        x.go(1);
        x.go(1);
        c.due("the FEAST on DAY 2", x.has(5), 2);
        x.go(88);
        c.due("ago", x.person(0, 2), 88);
        c.due("the next YEAR", x.go(1), 0);
        c.due("ago of who was told off", x.person(0, 2), 0);
        c.due("ago", x.person(1, 2), 89);
    }

    private static void rowsKept(Check c) {
        ForgottenFeast x = Check.of("days 50;person a mind 3 asks 1;person b mind 3 asks 1;told a on 3;told b on 3;told a on 1;");
        c.due("has(9)", x.has(9), 0);
        c.due("kept(0, 0)", x.kept(0, 0), -1);
        x.go(3);
        int[][] due = {{1, 1, 1, 0}, {1, 2, 0, 1}, {1, 3, 2, 0}};
        for (int k = 0; k < 3; k++) {
            for (int what = 0; what < 4; what++) {
                c.due("kept(" + k + ", " + what + ")", x.kept(k, what), due[k][what]);
            }
        }
        c.due("kept(3, 0)", x.kept(3, 0), -1);
        c.due("kept(-1, 0)", x.kept(-1, 0), -1);
        c.due("kept(0, 4)", x.kept(0, 4), -1);
        c.due("kept(0, -1)", x.kept(0, -1), -1);
        x.go(57);
        c.due("has(9)", x.has(9), 60);
        c.due("the oldest", x.kept(0, 1), 1);
        x.go(1);
        c.due("has(9)", x.has(9), 60);
        c.due("the oldest", x.kept(0, 1), 2);
        c.due("the latest YEAR", x.kept(59, 0), 2);
        c.due("the latest DAY", x.kept(59, 1), 11);
        c.due("kept(60, 0)", x.kept(60, 0), -1);
        x.go(200);
        c.due("the oldest", x.kept(0, 1), 2);
        c.due("the oldest", x.kept(0, 0), 5);
        c.due("the latest", x.kept(59, 1), 11);
        x.undo();
        c.due("the oldest, undone", x.kept(0, 0), 1);
        c.due("the oldest, undone", x.kept(0, 1), 2);
        c.due("the oldest, undone", x.kept(0, 3), 1);
        x.undo();
        x.undo();
        c.due("has(9), undone", x.has(9), 3);
        c.due("kept(2, 2)", x.kept(2, 2), 2);
    }

    private static void yearsEnd(Check c) {
        ForgottenFeast x = Check.of("days 5;person a mind 3 asks 1;");
        c.due("on()", Check.on(x, Check.sealed(999 / 256, 999 % 256, 3, 1, 0, 0, 0, 5, 0, 0, 0, 0)), true);
        c.due("go(3)", x.go(3), -1);
        c.due("status(2)", x.status(2), 1);
        c.due("later(2, 3)", x.later(2, 3), 5);
        c.due("later(3, 3)", x.later(3, 3), -1);
        c.due("hangs(3)", x.hangs(3), -1);
        c.due("sure(3)", x.sure(3), -1);
        c.due("sure(2)", x.sure(2), 0);
        c.due("slips(3)", x.slips(3), -1);
        c.due("costs(3)", x.costs(3), -1);
        c.due("first(0)", x.first(0), -1);
        c.due("chance(3)", x.chance(3), -1);
        c.due("go(2)", x.go(2), 0);
        c.due("go(1)", x.go(1), -1);
        c.due("chance(1)", x.chance(1), -1);
        c.due("later(1, 0)", x.later(1, 0), -1);
        c.due("first(1)", x.first(1), -1);
        c.due("enough(0)", x.enough(0), -1);
        c.due("turnsOf(0)", x.turnsOf(0), -1);
        c.due("thought(0)", x.thought(0), -1);
        c.due("cheapest(0)", x.cheapest(0), -1);
        c.due("ask", Check.ask(x, "often all", 1), Check.NOTHING);
        c.due("hours(1)", x.hours(1), 0);
        c.due("law(0), two DAYS without a thought", x.law(0), 98);
        c.due("status(2)", x.status(2), 4);
    }

    private static void wrongCalls(Check c) {
        ForgottenFeast x = Check.of("days 5;");
        int[] wrong = {0, -1, 201, Integer.MIN_VALUE, Integer.MAX_VALUE};
        for (int n : wrong) {
            c.due("go(" + n + ")", x.go(n), -1);
        }
        c.due("status(2)", x.status(2), 5);
        c.due("has(11)", x.has(11), 0);
        c.due("go(200)", x.go(200), 40);
        c.due("has(3)", x.has(3), 40);
        c.due("has(11)", x.has(11), 1);
    }

    private static void nobody(Check c) {
        ForgottenFeast x = Check.of("days 5;thinks all;");
        c.due("go(6)", x.go(6), 2);
        c.due("has(5)", x.has(5), 1);
        c.due("enough(0)", x.enough(0), -1);
        c.due("hours(1)", x.hours(1), -1);
        c.due("turnsOf(2)", x.turnsOf(2), 0);
        c.due("thought(0)", x.thought(0), 1);
        c.due("thought(1)", x.thought(1), 0);
        c.due("law(0)", x.law(0), 99);
        c.due("slips(1)", x.slips(1), 1000000);
        c.due("costs(1)", x.costs(1), 0);
    }
}
