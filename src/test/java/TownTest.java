/** Promises 4 and 5: the text of a town, its FAULTS and their places. */
public final class TownTest {
    private static final String DAYS = "days 9;";
    private static final String TWO = "days 9;person a mind 1 asks 0;person b mind 2 asks 3;";

    public static void main(String[] args) {
        Check c = new Check("TownTest");
        goodTowns(c);
        faultsOfText(c);
        faultsOfNumbers(c);
        faultsOfNames(c);
        faultsOfDepth(c);
        faultsOfMany(c);
        whatStaysAndGoes(c);
        c.close();
    }

    private static void goodTowns(Check c) {
        ForgottenFeast x = new ForgottenFeast();
        c.due("least", Check.town(x, "days 5;"), 1);
        c.due("fault(0)", x.fault(0), 0);
        c.due("fault(1)", x.fault(1), -1);
        c.due("fault(2)", x.fault(2), -1);
        c.due("fault(-1)", x.fault(-1), -1);
        c.due("no blanks", Check.town(x, "days 90;person abcdef mind 99 asks 99;thinks[not(1)<min(2,max(day,3))]and all;"), 3);
        c.due("blanks", Check.town(x, "\n days\n\n 0005 ; \n"), 1);
        c.due("has(0)", x.has(0), 5);
        c.due("names of question words",
            Check.town(x, "days 5;person first mind 1 asks 1;person last mind 1 asks 1;person least mind 1 asks 1;"
                + "person often mind 1 asks 1;person total mind 1 asks 1;person most mind 1 asks 1;reminds most least;"), 8);
        c.due("six open",
            Check.town(x, DAYS + "thinks not[not[(min(1,2))=1]];hears not not not not not not other=1;"), 3);
        c.due("a not is open until its FACT ends",
            Check.town(x, DAYS + "thinks not not not 1=1 and not not not not 1=1 or not not not not not not all;"), 2);
        c.due("all parts", Check.town(x, DAYS + "thinks day+year+told+ago+mind+frost+feast=9999;"
            + "hears day*year/told-ago+mind*frost-feast*other>0;slips 0;slips 100;mortal 0;mortal 1000;"), 7);
        c.due("the last slips counts", Check.town(x, DAYS + "slips 100;mortal 1000;slips 0;mortal 0;"), 5);
        StringBuilder many = new StringBuilder(DAYS);
        for (int i = 0; i < 69; i++) {
            many.append("slips 1;");
        }
        c.due("70 statements", Check.town(x, many.toString()), 70);
        c.fault(x, many + " \n ", 0, -1);
        c.fault(x, many + "  slips 2;", 5, many.length() + 2);
        c.fault(x, many + " #", 5, many.length() + 1);
        c.fault(x, many + "x", 5, many.length());
    }

    private static void faultsOfText(Check c) {
        ForgottenFeast x = new ForgottenFeast();
        c.fault(x, "", 1, 0);
        c.fault(x, " \n ", 1, 3);
        c.fault(x, ";", 1, 0);
        c.fault(x, "day 5;", 1, 0);
        c.fault(x, "days", 1, 4);
        c.fault(x, "days5;", 1, 4);
        c.fault(x, "days 5", 1, 6);
        c.fault(x, "days 5  ", 1, 8);
        c.fault(x, "days 5 5;", 1, 7);
        c.fault(x, "days 5x;", 1, 6);
        c.fault(x, "days x;", 1, 5);
        c.fault(x, "days\t5;", 1, 4);
        c.fault(x, "Days 5;", 1, 0);
        c.fault(x, "daysX5;", 1, 4);
        c.fault(x, "days 12345;", 1, 9);
        c.fault(x, "days 00005;", 1, 9);
        c.fault(x, "days12345;", 1, 4);
        c.fault(x, "person a mind 1 asks 1;", 1, 0);
        c.fault(x, DAYS + "days 5;", 1, 7);
        c.fault(x, DAYS + "per", 1, 7);
        c.fault(x, DAYS + ";", 1, 7);
        c.fault(x, DAYS + "mind 5;", 1, 7);
        c.fault(x, DAYS + "first 5;", 1, 7);
        c.fault(x, DAYS + "5;", 1, 7);
        c.fault(x, DAYS + "person ", 1, 14);
        c.fault(x, DAYS + "person 5", 1, 14);
        c.fault(x, DAYS + "person mind", 1, 14);
        c.fault(x, DAYS + "person reminds", 1, 14);
        c.fault(x, DAYS + "person remindsx", 1, 20);
        c.fault(x, DAYS + "person abcdefghij mind 5", 1, 20);
        c.fault(x, DAYS + "person a1 mind 1 asks 1;", 1, 15);
        c.fault(x, DAYS + "person aB mind 1 asks 1;", 1, 15);
        c.fault(x, DAYS + "person a minds 1 asks 1;", 1, 16);
        c.fault(x, DAYS + "person a mind 1asks 1;", 1, 22);
        c.fault(x, DAYS + "person a mind 1 asks;", 1, 27);
        c.fault(x, DAYS + "person a mind 10000 asks 1;", 1, 25);
        c.fault(x, TWO + "told abcdefg on 1;", 1, TWO.length() + 11);
        c.fault(x, TWO + "told a in 1;", 1, TWO.length() + 7);
        c.fault(x, TWO + "told a on b;", 1, TWO.length() + 10);
        c.fault(x, TWO + "told a on 11111;", 1, TWO.length() + 14);
        c.fault(x, TWO + "reminds a 5;", 1, TWO.length() + 10);
        c.fault(x, TWO + "reminds a all;", 1, TWO.length() + 10);
        c.fault(x, TWO + "reminds a b", 1, TWO.length() + 11);
        c.fault(x, DAYS + "frost 1 to 1;", 1, 15);
        c.fault(x, DAYS + "frost 1 for;", 1, 18);
        c.fault(x, DAYS + "slips;", 1, 12);
        c.fault(x, DAYS + "mortal x;", 1, 14);
        faultsOfTests(c, x);
    }

    private static void faultsOfTests(Check c, ForgottenFeast x) {
        String t = DAYS + "thinks ";
        int n = t.length();
        c.fault(x, t + ";", 1, n);
        c.fault(x, t + "1;", 1, n + 1);
        c.fault(x, t + "1=;", 1, n + 2);
        c.fault(x, t + "1=1=1;", 1, n + 3);
        c.fault(x, t + "1==1;", 1, n + 2);
        c.fault(x, t + "1 and 1=1;", 1, n + 2);
        c.fault(x, t + "1=1 and;", 1, n + 7);
        c.fault(x, t + "1=1 or or all;", 1, n + 7);
        c.fault(x, t + "1=1or all;", 1, n + 3);
        c.fault(x, t + "all all;", 1, n + 4);
        c.fault(x, t + "all+1=1;", 1, n + 3);
        c.fault(x, t + "(all);", 1, n + 1);
        c.fault(x, t + "(1=1);", 1, n + 2);
        c.fault(x, t + "[1]=1;", 1, n + 2);
        c.fault(x, t + "[1=1;", 1, n + 4);
        c.fault(x, t + "[1=1);", 1, n + 4);
        c.fault(x, t + "1=1];", 1, n + 3);
        c.fault(x, t + "(1=1;", 1, n + 2);
        c.fault(x, t + "-1=1;", 1, n);
        c.fault(x, t + "1+=1;", 1, n + 2);
        c.fault(x, t + "1*/2=1;", 1, n + 2);
        c.fault(x, t + "min=1;", 1, n + 3);
        c.fault(x, t + "min(1)=1;", 1, n + 5);
        c.fault(x, t + "max(1,2,3)=1;", 1, n + 7);
        c.fault(x, t + "max(1,)=1;", 1, n + 6);
        c.fault(x, t + "12345=1;", 1, n + 4);
        c.fault(x, t + "other=1;", 1, n);
        c.fault(x, t + "number=1;", 1, n);
        c.fault(x, t + "dead=1;", 1, n);
        c.fault(x, t + "knows 1=1;", 1, n);
        c.fault(x, t + "thinks=1;", 1, n);
        c.fault(x, t + "hears=1;", 1, n);
        c.fault(x, t + "foo=1;", 1, n);
        c.fault(x, t + "abcdefgh=1;", 1, n);
        c.fault(x, t + "not;", 1, n + 3);
        c.fault(x, t + "1=not 1;", 1, n + 2);
        c.fault(x, t + "1=1", 1, n + 3);
        c.fault(x, t + "1=1 ", 1, n + 4);
        c.fault(x, DAYS + "hears foo=1;", 1, DAYS.length() + 6);
    }

    private static void faultsOfNumbers(Check c) {
        ForgottenFeast x = new ForgottenFeast();
        c.fault(x, "days 4;", 2, 5);
        c.fault(x, "days 91;", 2, 5);
        c.fault(x, "days 9999;", 2, 5);
        c.fault(x, "days 91x", 2, 5);
        c.fault(x, DAYS + "person a mind 0 asks 0;", 2, 21);
        c.fault(x, DAYS + "person a mind 100 asks 0;", 2, 21);
        c.fault(x, DAYS + "person a mind 1 asks 100;", 2, 28);
        c.fault(x, TWO + "told a on 0;", 2, TWO.length() + 10);
        c.fault(x, TWO + "told a on 10;", 2, TWO.length() + 10);
        c.fault(x, TWO + "told a on 9;told b on 9;told a on 09;", 2, TWO.length() + 34);
        c.fault(x, DAYS + "frost 0 for 1;", 2, 13);
        c.fault(x, DAYS + "frost 10 for 1;", 2, 13);
        c.fault(x, DAYS + "frost 9 for 0;", 2, 19);
        c.fault(x, DAYS + "frost 9 for 31;", 2, 19);
        c.fault(x, DAYS + "frost 9 for 30;", 0, -1);
        c.fault(x, DAYS + "slips 101;", 2, 13);
        c.fault(x, DAYS + "mortal 1001;", 2, 14);
        c.fault(x, DAYS + "mortal 1000;slips 100;", 0, -1);
    }

    private static void faultsOfNames(Check c) {
        ForgottenFeast x = new ForgottenFeast();
        c.fault(x, TWO + "person b mind 0", 3, TWO.length() + 7);
        c.fault(x, TWO + "told c on 1;", 3, TWO.length() + 5);
        c.fault(x, TWO + "told ab on 1;", 3, TWO.length() + 5);
        c.fault(x, DAYS + "told a on 1;person a mind 1 asks 0;", 3, 12);
        c.fault(x, TWO + "reminds c a;", 3, TWO.length() + 8);
        c.fault(x, TWO + "reminds a c;", 3, TWO.length() + 10);
        c.fault(x, TWO + "reminds a a;", 3, TWO.length() + 10);
        c.fault(x, TWO + "reminds a b;reminds b a;reminds  a  b;", 3, TWO.length() + 36);
        c.fault(x, TWO + "reminds a b;reminds b a;", 0, -1);
    }

    private static void faultsOfDepth(Check c) {
        ForgottenFeast x = new ForgottenFeast();
        String t = DAYS + "thinks ";
        int n = t.length();
        c.fault(x, t + "not not not not not not not all;", 4, n + 24);
        c.fault(x, t + "[[[[[[[all]]]]]]];", 4, n + 6);
        c.fault(x, t + "((((((1))))))=1;", 0, -1);
        c.fault(x, t + "(((((((1)))))))=1;", 4, n + 6);
        c.fault(x, t + "(((((min(1,2))))))=1;", 0, -1);
        c.fault(x, t + "((((((min(1,2)))))))=1;", 4, n + 9);
        c.fault(x, t + "((((((min 5", 1, n + 10);
        c.fault(x, t + "not[not[not[not all]]];", 4, n + 12);
        c.fault(x, t + "not[not[not[1=1]]] and not[not[not[(1)=1]]];", 4, n + 35);
        c.fault(x, t + "not not not not not not 1=(1);", 4, n + 26);
        c.fault(x, t + "not not not not not not 1=1 and (1)=1;", 0, -1);
        c.fault(x, t + "((((((1)+(2))))))=1;", 0, -1);
        c.fault(x, t + "((((((1)+((2)))))))=1;", 4, n + 10);
        c.fault(x, t + "((((((not", 1, n + 6);
    }

    private static void faultsOfMany(Check c) {
        ForgottenFeast x = new ForgottenFeast();
        StringBuilder people = new StringBuilder(DAYS);
        for (int i = 0; i < 8; i++) {
            people.append("person ").append((char) ('a' + i)).append(" mind 5 asks 5;");
        }
        c.fault(x, people.toString(), 0, -1);
        c.fault(x, people + "person a", 5, people.length());
        c.fault(x, people + "person", 5, people.length());
        StringBuilder told = new StringBuilder(people);
        for (int i = 0; i < 30; i++) {
            told.append("told ").append((char) ('a' + i % 8)).append(" on ").append(i / 8 + 1).append(";");
        }
        c.fault(x, told.toString(), 0, -1);
        c.due("has(6)", x.has(6), 30);
        c.fault(x, told + " told a on 9;", 5, told.length() + 1);
        StringBuilder reminds = new StringBuilder(people);
        for (int i = 0; i < 20; i++) {
            reminds.append("reminds ").append((char) ('a' + i % 8)).append(" ")
                .append((char) ('a' + (i + 1 + i / 8) % 8)).append(";");
        }
        c.fault(x, reminds.toString(), 0, -1);
        c.fault(x, reminds + "reminds h a;", 5, reminds.length());
        String frosts = DAYS + "frost 1 for 1;frost 1 for 1;frost 2 for 1;frost 9 for 1;";
        c.fault(x, frosts, 0, -1);
        c.fault(x, frosts + "frost", 5, frosts.length());
        c.fault(x, DAYS + "thinks all;thinks", 5, DAYS.length() + 11);
        c.fault(x, DAYS + "hears all;thinks all;hears", 5, DAYS.length() + 21);
    }

    private static void whatStaysAndGoes(Check c) {
        ForgottenFeast x = Check.of(TWO + "told a on 1;told b on 2;mortal 500;");
        x.go(3);
        x.bribe(1, 5);
        x.tell(0, 4);
        x.dies(0);
        Check.see(x, 1, 1);
        x.image();
        c.due("a FAULT", Check.town(x, "days 5;x"), -1);
        c.due("all stays: has(0)", x.has(0), 9);
        c.due("has(2)", x.has(2), 1);
        c.due("has(4)", x.has(4), 3);
        c.due("has(6)", x.has(6), 3);
        c.due("has(7)", x.has(7), 1);
        c.due("has(8)", x.has(8), 3);
        c.due("has(9)", x.has(9), 3);
        c.due("has(10)", x.has(10), 1);
        c.due("has(11)", x.has(11), 4);
        c.due("status(1)", x.status(1), 1);
        c.due("a town", Check.town(x, "days 7;person q mind 4 asks 2;told q on 7;mortal 1000;"), 4);
        int[] has = {7, 1, 1, 1, 0, 0, 1, 0, 0, 0, 0, 0};
        for (int what = 0; what < has.length; what++) {
            c.due("has(" + what + ")", x.has(what), has[what]);
        }
        c.due("person(0, 4)", x.person(0, 4), 0);
        c.due("day(2, 0)", x.day(2, 0), 0);
        c.due("undo()", x.undo(), false);
        c.due("status(1)", x.status(1), 1);
        c.due("the image stays", x.octet(2), 3);
        theSeedStays(c);
        nothingIsLeft(c);
    }

    /** A town read behind two full ones has nothing of theirs. */
    private static void nothingIsLeft(Check c) {
        StringBuilder full = new StringBuilder("days 90;thinks all;hears not all;slips 100;mortal 1000;");
        full.append("frost 1 for 30;frost 31 for 30;frost 61 for 30;frost 90 for 1;");
        for (int i = 0; i < 8; i++) {
            full.append("person ").append((char) ('a' + i)).append(" mind 5 asks 5;");
        }
        for (int i = 0; i < 20; i++) {
            full.append("reminds ").append((char) ('a' + i % 8)).append(" ")
                .append((char) ('a' + (i + 1 + i / 8) % 8)).append(";");
        }
        for (int i = 0; i < 30; i++) {
            full.append("told ").append((char) ('a' + i % 8)).append(" on ").append(i / 8 + 1).append(";");
        }
        ForgottenFeast x = new ForgottenFeast();
        c.fault(x, full.toString(), 0, -1);
        x.chance(100);
        c.fault(x, full.toString(), 0, -1);
        x.chance(100);
        c.fault(x, full.toString(), 0, -1);
        c.fault(x, TWO + "told a on 2;reminds a b;frost 9 for 1;", 0, -1);
        int[] has = {9, 2, 2, 1, 0, 0, 1, 0, 0, 0, 0, 0};
        for (int what = 0; what < has.length; what++) {
            c.due("has(" + what + ")", x.has(what), has[what]);
        }
        c.due("person(0, 5)", x.person(0, 5), 0);
        c.due("person(1, 5)", x.person(1, 5), 1);
        c.due("person(0, 2)", x.person(0, 2), 0);
        c.due("day(1, 2)", x.day(1, 2), 0);
        c.due("without thinks", x.later(1, 0), 0);
        c.due("without hears", x.later(2, 1), 3);
        c.due("without slips", x.slips(2), 0);
        c.due("without mortal", x.chance(1), 0);
        c.due("has(3)", x.has(3), 1);
        c.fault(x, full.toString(), 0, -1);
    }

    private static void theSeedStays(Check c) {
        String town = "days 5;person a mind 1 asks 1;person b mind 1 asks 1;person d mind 1 asks 1;mortal 300;";
        ForgottenFeast x = Check.of(town);
        ForgottenFeast y = new ForgottenFeast();
        y.seed(1);
        x.chance(2);
        Check.town(x, town);
        Check.town(y, town);
        y.chance(2);
        y.undo();
        c.due("the seed stays", x.chance(3), y.chance(3));
        c.due("has(2)", x.has(2), y.has(2));
    }
}
