/** Promises 5 and 31: questions, their FAULTS, their answers. */
public final class AskTest {
    private static final String TOWN = "days 9;person a mind 3 asks 1;person b mind 5 asks 2;person d mind 7 asks 3;"
        + "person e mind 9 asks 4;reminds a b;reminds b d;reminds a d;told a on 1;told e on 2;told e on 1;";

    public static void main(String[] args) {
        Check c = new Check("AskTest");
        answers(c);
        daysAhead(c);
        withoutPeople(c);
        faults(c);
        depths(c);
        whatStays(c);
        c.close();
    }

    private static void answers(Check c) {
        ForgottenFeast x = Check.of(TOWN);
        x.dies(1);
        Object[][] due = {
            {"first all", 0}, {"last all", 3}, {"often all", 4}, {"first mind>3", 1}, {"last mind<9", 2},
            {"first mind>9", -1}, {"last mind>9", -1}, {"often mind>9", 0}, {"total mind", 24}, {"most mind", 9},
            {"least mind", 3}, {"most 0-mind", -3}, {"least 0-mind", -9}, {"total number", 6}, {"often told=1", 2},
            {"total told", 2}, {"often thinks=1", 3}, {"first thinks=0", 1}, {"total dead", 1}, {"first dead=1", 1},
            {"total ago", 1}, {"total feast", 0}, {"total day", 4}, {"total knows 0", 2}, {"total knows 1", 1},
            {"total knows 2", 0}, {"total knows 3", 0}, {"total knows 4", 0}, {"total knows 9999", 0},
            {"total knows(0-1)", 0}, {"first knows 0=1 and knows 1=1", 2}, {"total knows knows 0", 1},
            {"total knows(number-1)", 2}, {"total knows min(0,5)", 2}, {"total knows 0+1", 6}, {"total knows 0*2", 4},
            {"total 9999*9999", 4000000}, {"total 0-9999*9999", -4000000}, {"most 9999*9999", 1000000},
            {"total mind/2", 10}, {"total(0-mind)/2", -14}, {"total number*number-1", 10}, {"total max(mind,6)", 28},
            {"total min(mind,6)", 20}, {"often not[mind=3 or mind=5]", 2}, {"often mind>3 and mind<9", 2},
            {" \nlast\nall ", 3}, {"total mind/number", 5 + 3 + 3}, {"last not thinks=1", 1}};
        for (Object[] d : due) {
            c.due("ask <" + d[0] + ">", Check.ask(x, (String) d[0], 1), ((Integer) d[1]).longValue());
            c.due("fault(0)", x.fault(0), 0);
            c.due("fault(1)", x.fault(1), -1);
        }
    }

    private static void daysAhead(Check c) {
        ForgottenFeast x = Check.of(TOWN);
        c.due("DAY 1 thinks", Check.ask(x, "often thinks=1", 1), 4);
        c.due("DAY 2 thinks", Check.ask(x, "first thinks=1", 2), 3);
        c.due("DAY 2 ago", Check.ask(x, "total ago", 2), 3);
        c.due("DAY 3 is the FEAST", Check.ask(x, "total feast", 3), 4);
        c.due("DAY 3 ago", Check.ask(x, "total ago", 3), 0);
        c.due("DAY 4 is not", Check.ask(x, "total feast", 4), 0);
        c.due("DAY 4 ago", Check.ask(x, "least ago", 4), 1);
        c.due("DAY 10 is DAY 1", Check.ask(x, "most day", 10), 1);
        c.due("DAY 10 told", Check.ask(x, "total told", 10), 2);
        c.due("120", Check.ask(x, "most day", 120), 3);
        c.due("121", Check.ask(x, "most day", 121), Check.NOTHING);
        c.due("0", Check.ask(x, "most day", 0), Check.NOTHING);
        c.due("-1", Check.ask(x, "most day", -1), Check.NOTHING);
        x.bribe(3, 2);
        c.due("bribed", Check.ask(x, "first thinks=1", 2), -1);
        c.due("then it is the FEAST", Check.ask(x, "most feast", 2), 1);
    }

    private static void withoutPeople(Check c) {
        ForgottenFeast x = Check.of("days 5;");
        String[] texts = {"first all", "last all", "often all", "total 5", "most 5", "least 5"};
        int[] due = {-1, -1, 0, 0, 0, 0};
        for (int i = 0; i < texts.length; i++) {
            c.due("ask <" + texts[i] + ">", Check.ask(x, texts[i], 1), due[i]);
        }
    }

    private static void faults(Check c) {
        ForgottenFeast x = Check.of(TOWN);
        c.askFault(x, "", 1, 0);
        c.askFault(x, "  ", 1, 2);
        c.askFault(x, "foo", 1, 0);
        c.askFault(x, " day", 1, 1);
        c.askFault(x, "first", 1, 5);
        c.askFault(x, "first ", 1, 6);
        c.askFault(x, "first mind", 1, 10);
        c.askFault(x, "total mind=1", 1, 10);
        c.askFault(x, "total all", 1, 6);
        c.askFault(x, "total not 1", 1, 6);
        c.askFault(x, "first all;", 1, 9);
        c.askFault(x, "first all x", 1, 10);
        c.askFault(x, "total mind 5", 1, 11);
        c.askFault(x, "total mind)", 1, 10);
        c.askFault(x, "total mind5", 1, 10);
        c.askFault(x, "total 5mind", 1, 7);
        c.askFault(x, "total5", 1, 5);
        c.askFault(x, "total foo", 1, 6);
        c.askFault(x, "total year", 1, 6);
        c.askFault(x, "total frost", 1, 6);
        c.askFault(x, "total other", 1, 6);
        c.askFault(x, "total asks", 1, 6);
        c.askFault(x, "total hears", 1, 6);
        c.askFault(x, "total 12345", 1, 10);
        c.askFault(x, "total knows", 1, 11);
        c.askFault(x, "total knows all", 1, 12);
        c.askFault(x, "total knows -1", 1, 12);
        c.askFault(x, "total min(1,2", 1, 13);
        c.askFault(x, "total (1", 1, 8);
        c.askFault(x, "total #", 1, 6);
        c.askFault(x, "total first", 1, 6);
        c.askFault(x, "often all", 0, -1);
        c.askFault(x, "total knows 0", 0, -1);
    }

    private static void depths(Check c) {
        ForgottenFeast x = Check.of(TOWN);
        c.askFault(x, "total knows knows knows knows knows knows 0", 0, -1);
        c.askFault(x, "total knows knows knows knows knows knows knows 0", 4, 42);
        c.askFault(x, "total knows knows knows knows knows knows(0)", 4, 41);
        c.askFault(x, "total knows knows knows knows knows knows 0+(((((knows 0)))))", 0, -1);
        c.askFault(x, "total ((((((knows 0))))))", 4, 12);
        c.askFault(x, "first not not not not not knows 0=0", 0, -1);
        c.askFault(x, "first not not not not not not knows 0=0", 4, 30);
        c.askFault(x, "first not not not not not not not all", 4, 30);
        c.askFault(x, "first [[[[[[all]]]]]]", 0, -1);
        c.askFault(x, "first [[[[[[[", 4, 12);
        c.askFault(x, "first [[[[[[min(1,2)=1]]]]]]", 4, 15);
        c.askFault(x, "first not[not[not knows(0)=0]]", 4, 23);
    }

    private static void whatStays(Check c) {
        ForgottenFeast x = Check.of(TOWN);
        Check.ask(x, "total foo", 1);
        Check.ask(x, "total mind", 0);
        c.due("doing nothing else: fault(0)", x.fault(0), 1);
        c.due("fault(1)", x.fault(1), 6);
        c.due("the tape is gone", x.end(1), false);
        Check.ask(x, "total foo", 121);
        c.due("fault(1)", x.fault(1), 6);
        Check.ask(x, "total 1", 1);
        c.due("fault(0)", x.fault(0), 0);
        c.due("the tape is gone", x.end(1), false);
        Check.ask(x, "xxx", 1);
        c.due("the tape is gone", x.end(1), false);
        c.due("the town is there", x.has(1), 4);
        Check.town(x, "days 4;");
        c.due("fault of the latest town()", x.fault(0), 2);
        ForgottenFeast y = new ForgottenFeast();
        c.due("without a town", Check.ask(y, "often all", 1), Check.NOTHING);
        c.due("fault(0)", y.fault(0), 0);
        c.due("the tape is gone", y.end(1), false);
    }
}
