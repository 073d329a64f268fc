/** Terms I, sentence by sentence: the last value that is taken, the first that is not, the full and the empty. */
public final class EdgesOfTownsTest {
    private static final String[] OWN_WORDS = {"days", "person", "mind", "asks", "told", "on", "reminds", "frost", "for", "thinks",
        "hears", "slips", "mortal", "day", "year", "ago", "feast", "other", "number", "dead", "knows", "or", "and", "not", "all",
        "min", "max"};

    private final Check c;

    private EdgesOfTownsTest(Check c) {
        this.c = c;
    }

    public static void main(String[] args) {
        Check c = new Check("EdgesOfTownsTest");
        EdgesOfTownsTest t = new EdgesOfTownsTest(c);
        t.seventyStatements();
        t.daysFirstAndAlone();
        t.daysOfAYear();
        t.minds();
        t.coinsAsked();
        t.eightPeople();
        t.toldOneOfThePeople();
        t.toldOnADay();
        t.toldThirty();
        t.toldNoneTwice();
        t.remindsTwoUnlike();
        t.remindsTwenty();
        t.remindsNoneTwice();
        t.frostOnADay();
        t.frostForDays();
        t.fourFrosts();
        t.oneOfEachRule();
        t.slips();
        t.mortal();
        t.zeroWithout();
        t.numbersInRules();
        t.bothIsCloserThanOr();
        t.fromTheLeftOn();
        t.greatestWholeNumberNotAbove();
        t.byZero();
        t.heldAtAMillion();
        t.likeOnes();
        t.otherInHearsAlone();
        t.rulesStandAlone();
        t.namesOfSixLetters();
        t.ownWordsAreNoNames();
        t.wordsThatAreNoOwnWords();
        t.blanks();
        t.wordsAndNumbersSideBySide();
        t.wholeWordsAndNumbers();
        t.ownWordWhereANameIsAsked();
        t.seventhLetter();
        t.fifthDigit();
        t.endsTooSoon();
        t.numberThatCantBe();
        t.namesThatCantBe();
        t.seventhOpen();
        t.openUntilItEnds();
        t.oneTooMany();
        t.seventyFirstStatement();
        t.theFirstFaultCounts();
        c.close();
    }

    /** No FAULT, and as many STATEMENTS as there are signs that end one. */
    private ForgottenFeast good(String text) {
        ForgottenFeast x = new ForgottenFeast();
        c.due("town() of <" + text + ">", Check.town(x, text), text.chars().filter(b -> b == ';').count());
        c.due("fault(0) of <" + text + ">", x.fault(0), 0);
        c.due("fault(1) of <" + text + ">", x.fault(1), Check.NONE);
        return x;
    }

    /** The FAULT is where the sign @ stands, which is no part of the text. */
    private void bad(int fault, String marked) {
        ForgottenFeast x = new ForgottenFeast();
        int place = marked.indexOf('@');
        c.fault(x, marked.substring(0, place) + marked.substring(place + 1), fault, place);
        c.due("has(0) behind it", x.has(0), 0);
    }

    private static String many(String statement, int n) {
        return statement.repeat(n);
    }

    /** "{ STATEMENT ; } (70 at most)", "one without a STATEMENT has FAULT 1 at its length". */
    private void seventyStatements() {
        good("days 5;");
        good("days 5;" + many("slips 1;", 69));
        bad(5, "days 5;" + many("slips 1;", 69) + "@slips 1;");
        bad(1, "@");
        bad(1, " @");
        bad(1, "\n \n@");
    }

    /** "the first STATEMENT, and it alone". */
    private void daysFirstAndAlone() {
        bad(1, "@slips 1;days 5;");
        bad(1, "@thinks all;");
        bad(1, " @person a mind 1 asks 1;days 5;");
        bad(1, "days 5;@days 5;");
        bad(1, "days 5;slips 1;@days 6;");
    }

    /** "days N (5 .. 90 DAYS a YEAR". */
    private void daysOfAYear() {
        c.due("has(0)", good("days 5;").has(0), 5);
        c.due("has(0)", good("days 90;").has(0), 90);
        bad(2, "days @4;");
        bad(2, "days @91;");
        bad(2, "days @0;");
    }

    /** "mind N (1 .. 99". */
    private void minds() {
        c.due("person(0, 0)", good("days 5;person a mind 1 asks 5;").person(0, 0), 1);
        c.due("person(0, 0)", good("days 5;person a mind 99 asks 5;").person(0, 0), 99);
        bad(2, "days 5;person a mind @0 asks 5;");
        bad(2, "days 5;person a mind @100 asks 5;");
    }

    /** "asks N (0 .. 99 coins". */
    private void coinsAsked() {
        c.due("person(0, 1)", good("days 5;person a mind 5 asks 0;").person(0, 1), 0);
        c.due("person(0, 1)", good("days 5;person a mind 5 asks 99;").person(0, 1), 99);
        bad(2, "days 5;person a mind 5 asks @100;");
    }

    /** "8 PEOPLE". */
    private void eightPeople() {
        c.due("has(1)", good(Texts.town(5, 8)).has(1), 8);
        c.due("has(1)", good("days 5;").has(1), 0);
        bad(5, Texts.town(5, 8) + "@person i mind 1 asks 1;");
    }

    /** "told NAME on N (one of the PEOPLE": one told of ahead of it. */
    private void toldOneOfThePeople() {
        good(Texts.town(5, 8) + "told a on 1;told h on 1;");
        bad(3, Texts.town(5, 8) + "told @i on 1;");
        bad(3, "days 5;told @a on 1;person a mind 1 asks 1;");
    }

    /** "a DAY 1 .. days". */
    private void toldOnADay() {
        for (int days : new int[] {5, 47, 90}) {
            ForgottenFeast x = good(Texts.town(days, 1) + "told a on 1;told a on " + days + ";");
            c.due("day(1, 0)", x.day(1, 0), 1);
            c.due("day(2, 0)", x.day(2, 0), 0);
            c.due("day(" + days + ", 0)", x.day(days, 0), 1);
            bad(2, Texts.town(days, 1) + "told a on @0;");
            bad(2, Texts.town(days, 1) + "told a on @" + (days + 1) + ";");
        }
    }

    /** "30 of these". */
    private void toldThirty() {
        c.due("has(6)", good(Texts.town(5, 8) + Texts.told(30)).has(6), 30);
        bad(5, Texts.town(5, 8) + Texts.told(30) + "@told a on 5;");
    }

    /** "none twice"; "of one who is told off for it already, too", at the number. */
    private void toldNoneTwice() {
        good(Texts.town(5, 2) + "told a on 1;told b on 1;told a on 2;");
        bad(2, Texts.town(5, 2) + "told a on 1;told b on 1;told a on @1;");
        bad(2, Texts.town(90, 2) + "told b on 90;told b on @0090;");
    }

    /** "reminds NAME NAME (two unlike PEOPLE". */
    private void remindsTwoUnlike() {
        ForgottenFeast x = good(Texts.town(5, 8) + "reminds a h;reminds h a;");
        c.due("person(0, 4)", x.person(0, 4), 128);
        c.due("person(7, 4)", x.person(7, 4), 1);
        bad(3, Texts.town(5, 8) + "reminds a @a;");
        bad(3, Texts.town(5, 8) + "reminds h @h;");
    }

    /** "20 of these". */
    private void remindsTwenty() {
        good(Texts.town(5, 8) + Texts.reminds(20));
        bad(5, Texts.town(5, 8) + Texts.reminds(20) + "@reminds h a;");
    }

    /** "none twice"; "one whom he reminds already: at its second NAME". */
    private void remindsNoneTwice() {
        good(Texts.town(5, 3) + "reminds a b;reminds b a;reminds a c;");
        bad(3, Texts.town(5, 3) + "reminds a b;reminds a c;reminds a @b;");
        bad(3, Texts.town(5, 8) + Texts.reminds(19) + "reminds a @b;");
    }

    /** "frost N for N (a DAY". */
    private void frostOnADay() {
        c.due("day(1, 2)", good("days 9;frost 1 for 1;").day(1, 2), 1);
        c.due("day(9, 2)", good("days 9;frost 9 for 1;").day(9, 2), 1);
        c.due("day(90, 2)", good("days 90;frost 90 for 1;").day(90, 2), 1);
        bad(2, "days 9;frost @0 for 1;");
        bad(2, "days 9;frost @10 for 1;");
        bad(2, "days 90;frost @91 for 1;");
    }

    /** "1 .. 30 DAYS": those that the YEAR has. */
    private void frostForDays() {
        ForgottenFeast x = good("days 90;frost 5 for 1;frost 7 for 30;");
        for (int d = 1; d <= 90; d++) {
            c.due("frost on " + d, x.day(d, 2), d == 5 || d >= 7 && d <= 36 ? 1 : 0);
        }
        x = good("days 90;frost 61 for 30;");
        c.due("the last DAY", x.day(90, 2), 1);
        c.due("the first DAY", x.day(1, 2), 0);
        x = good("days 90;frost 90 for 30;");
        c.due("the last DAY", x.day(90, 2), 1);
        c.due("not of the next YEAR", x.day(1, 2), 0);
        bad(2, "days 90;frost 5 for @0;");
        bad(2, "days 90;frost 5 for @31;");
    }

    /** "4 FROSTS". */
    private void fourFrosts() {
        ForgottenFeast x = good("days 9;frost 1 for 1;frost 3 for 1;frost 3 for 2;frost 9 for 1;");
        int[] due = {1, 0, 1, 1, 0, 0, 0, 0, 1};
        for (int d = 1; d <= 9; d++) {
            c.due("frost on " + d, x.day(d, 2), due[d - 1]);
        }
        bad(5, "days 9;frost 1 for 1;frost 3 for 1;frost 3 for 2;frost 9 for 1;@frost 2 for 1;");
    }

    /** "thinks TEST, hears TEST (one each)". */
    private void oneOfEachRule() {
        good("days 5;thinks all;hears all;");
        good("days 5;hears all;thinks all;");
        bad(5, "days 5;thinks all;hears all;@thinks all;");
        bad(5, "days 5;thinks all;hears all;@hears all;");
    }

    /** "slips N (0 .. 100)"; "the last one of each counts". */
    private void slips() {
        String town = Texts.town(5, 1) + "thinks all;";
        c.due("slips 0", good(town + "slips 0;").slips(1), 0);
        c.due("slips 100", good(town + "slips 100;").slips(1), 1000000);
        bad(2, town + "slips @101;");
        c.due("the last one", good(town + "slips 100;slips 1;slips 3;").slips(1), 30000);
        c.due("the last one", good(town + "slips 100;slips 3;slips 0;").slips(1), 0);
    }

    /** "mortal N (0 .. 1000)"; "the last one of each counts". */
    private void mortal() {
        String town = Texts.town(5, 8);
        c.due("mortal 0", good(town + "mortal 0;").chance(100), 0);
        c.due("mortal 1000", good(town + "mortal 1000;").chance(1), 8);
        bad(2, town + "mortal @1001;");
        c.due("the last one", good(town + "mortal 0;mortal 1000;").chance(1), 8);
        c.due("the last one", good(town + "mortal 1000;mortal 0;").chance(100), 0);
    }

    /** "(0 without)": of slips, and of mortal even by the least DRAW there is, also behind a town that had both. */
    private void zeroWithout() {
        int seed = 0;
        while ((1103515245L * seed + 12345) % (1L << 31) / 64 % 1000 != 0) {
            seed++;
        }
        ForgottenFeast x = good(Texts.town(5, 1) + "thinks all;");
        x.seed(seed);
        c.due("slips(1)", x.slips(1), 0);
        c.due("chance(1)", x.chance(1), 0);
        Check.town(x, Texts.town(5, 1) + "mortal 1;slips 100;thinks all;");
        x.seed(seed);
        c.due("slips(1)", x.slips(1), 1000000);
        c.due("chance(1), mortal 1", x.chance(1), 1);
        Check.town(x, Texts.town(5, 1) + "thinks all;");
        x.seed(seed);
        c.due("slips(1)", x.slips(1), 0);
        c.due("chance(1)", x.chance(1), 0);
    }

    private void holds(String test, boolean due) {
        c.due(test, good(Texts.town(5, 1) + "thinks " + test + ";").later(1, 0), due ? 1 : 0);
    }

    /** "N (1 to 4 digits)". */
    private void numbersInRules() {
        holds("0=0000", true);
        holds("9999=9998+1", true);
        holds("0007=7", true);
        holds("9=09", true);
        bad(1, "days 5;thinks 9999@9=1;");
        bad(1, "days 5;thinks 0000@0=0;");
    }

    /** "TEST: BOTH { or BOTH }. BOTH: FACT { and FACT }": also inside what is open. */
    private void bothIsCloserThanOr() {
        holds("all or all and 1=2", true);
        holds("1=2 and all or all", true);
        holds("1=2 and[1=2 or all]", false);
        holds("1=2 and[all]", false);
        holds("1=2 and[all]and[all]", false);
        holds("all and[1=2 or 1=2 or all]", true);
        holds("[all or all]and 1=2", false);
        holds("1=2 or[all and[1=2 or all]]", true);
        holds("not 1=2 or all", true);
        holds("not all or all", true);
        holds("not[all or 1=2]", false);
    }

    /** "All from the left on"; products ahead of sums. */
    private void fromTheLeftOn() {
        holds("9-5-3=1", true);
        holds("9-5+3=7", true);
        holds("9-(5-3)=7", true);
        holds("7/2*2=6", true);
        holds("7*2/2=7", true);
        holds("8/4/2=1", true);
        holds("8/(4/2)=4", true);
        holds("1+2*3-4/2=5", true);
        holds("2*3+4*5=26", true);
        holds("10-2*3=4", true);
    }

    /** "/ gives the greatest whole number not above". */
    private void greatestWholeNumberNotAbove() {
        holds("7/2=3", true);
        holds("6/2=3", true);
        holds("(0-7)/2=0-4", true);
        holds("(0-6)/2=0-3", true);
        holds("7/(0-2)=0-4", true);
        holds("(0-7)/(0-2)=3", true);
        holds("0/9=0", true);
        holds("(0-1)/9999=0-1", true);
        holds("1/9999=0", true);
    }

    /** "by 0 it gives 0". */
    private void byZero() {
        holds("7/0=0", true);
        holds("(0-7)/0=0", true);
        holds("0/0=0", true);
        holds("7/(3-3)+1=1", true);
    }

    /** "each sum, difference, product above 10 to the 6 is that, below -10 to the 6 likewise". */
    private void heldAtAMillion() {
        holds("1000*1000-1=999*1001", true);
        holds("1000*1000=999*1001", false);
        holds("999*1001+1=1000*1000", true);
        holds("999*1001+2=1000*1000", true);
        holds("999*1001+2-1=999*1001", true);
        holds("1000*1000/1000=1000", true);
        holds("1000*1001=1000*1000", true);
        holds("1000*1000+1=1000*1000", true);
        holds("1000*1000-1<1000*1000", true);
        holds("1000*1000+1-1=1000*1000-1", true);
        holds("1000*1000+1-2=1000*1000-2", true);
        holds("1000*1001*0=0", true);
        holds("0-1000*1000-1=0-1000*1000", true);
        holds("0-1000*1000-1+1=0-1000*1000+1", true);
        holds("0-1000*1000+1>0-1000*1000", true);
        holds("(0-1000)*1001=0-1000*1000", true);
        holds("(0-1000)*999<0-999*999", true);
        holds("9999*9999*9999=1000*1000", true);
        holds("9999*9999*(0-9999)=0-1000*1000", true);
    }

    /** "SIGN < or > or ="; min and max of like ones. */
    private void likeOnes() {
        holds("1<1", false);
        holds("1>1", false);
        holds("1=1", true);
        holds("0<1 and 1>0 and not 1<0 and not 0>1 and not 0=1", true);
        holds("min(2,2)=2 and max(2,2)=2", true);
        holds("min(1,2)=1 and min(2,1)=1 and max(1,2)=2 and max(2,1)=2", true);
    }

    /** "in hears: other", in either order, and also when a QUESTION has been read ahead of it. */
    private void otherInHearsAlone() {
        good("days 5;thinks all;hears other=1;");
        good("days 5;hears other=1;thinks all;");
        bad(1, "days 5;thinks @other=1;");
        bad(1, "days 5;hears other=1;thinks @other=1;");
        bad(1, "days 5;hears @number=1;");
        ForgottenFeast x = Check.of("days 5;");
        Check.ask(x, "total number", 1);
        c.fault(x, "days 5;thinks number=1;", 1, 14);
        Check.ask(x, "total number", 1);
        c.fault(x, "days 5;thinks knows 1=1;", 1, 14);
        Check.ask(x, "total number", 1);
        c.fault(x, "days 5;thinks year=1;hears frost=other;", 0, -1);
        c.askFault(x, "total year", 1, 6);
        c.askFault(x, "total other", 1, 6);
    }

    /** One rule has nothing of the other, nor of a QUESTION or a town read ahead of it. */
    private void rulesStandAlone() {
        String town = Texts.town(5, 3) + "reminds a b;reminds b c;";
        c.due("thinks, hears", good(town + "thinks mind=1;hears mind=2;").later(1, 1), 3);
        c.due("hears, thinks", good(town + "hears mind=2;thinks mind=1;").later(1, 1), 3);
        ForgottenFeast x = good(town + "thinks mind=1 or mind=3 or mind=9;hears mind=2 or mind=9;");
        c.due("later(1, 1)", x.later(1, 1), 7);
        Check.ask(x, "total mind*mind+mind", 1);
        c.due("the QUESTION changes no rule", x.later(1, 1), 7);
        c.due("town()", Check.town(x, town + "hears mind=2;thinks mind=1;"), 8);
        c.due("shorter ones", x.later(1, 1), 3);
    }

    /** "NAMES: 1 to 6 letters", "unlike ones". */
    private void namesOfSixLetters() {
        ForgottenFeast x = good("days 5;person a mind 1 asks 1;person zzzzzz mind 2 asks 2;person zzzzz mind 3 asks 3;told zzzzzz on 1;");
        c.due("letter(1, 5)", x.letter(1, 5), 26);
        c.due("letter(2, 5)", x.letter(2, 5), 0);
        c.due("day(1, 0)", x.day(1, 0), 2);
        bad(1, "days 5;person zzzzzz@z mind 1 asks 1;");
        bad(3, "days 5;person zzzzzz mind 1 asks 1;person @zzzzzz mind 1 asks 1;");
        bad(3, "days 5;person zzzzzz mind 1 asks 1;told @zzzzz on 1;");
        bad(3, "days 5;person ab mind 1 asks 1;told @ba on 1;");
    }

    /** "no OWN WORD". */
    private void ownWordsAreNoNames() {
        for (String word : OWN_WORDS) {
            bad(1, "days 5;person @" + word + " mind 1 asks 1;");
            bad(1, Texts.town(5, 2) + "told @" + word + " on 1;");
            bad(1, Texts.town(5, 2) + "reminds @" + word + " a;");
            bad(1, Texts.town(5, 2) + "reminds a @" + word + ";");
        }
    }

    /** Words of QUESTIONS alone, and OWN WORDS with a letter more or less, are NAMES. */
    private void wordsThatAreNoOwnWords() {
        for (String word : new String[] {"first", "last", "often", "total", "most", "least"}) {
            good("days 5;person " + word + " mind 1 asks 1;told " + word + " on 1;");
        }
        for (String word : OWN_WORDS) {
            String less = word.substring(0, word.length() - 1);
            String more = word + "q";
            if (!java.util.List.of(OWN_WORDS).contains(less)) {
                good("days 5;person " + less + " mind 1 asks 1;");
            }
            if (more.length() <= 6) {
                good("days 5;person " + more + " mind 1 asks 1;");
            }
        }
    }

    /** "Blanks (10, 32) are where one likes". */
    private void blanks() {
        good("days 5;person a mind 1 asks 1;thinks[min(1,2)=1]and not[1<2];");
        good("\n \ndays\n5\n;\nperson\na\nmind\n1\nasks\n1\n;\nthinks\n[\nmin\n(\n1\n,\n2\n)\n=\n1\n]\nand\nnot\n[\n1\n<\n2\n]\n;\n");
        for (int b : new int[] {0, 9, 11, 12, 13, 31, 33, 127, 160, 255}) {
            bad(1, "days 5;@" + (char) b + "slips 1;");
            bad(1, "days 5;slips@" + (char) b + "1;");
        }
        bad(1, "@da ys 5;");
        bad(1, "days 9 @0;");
    }

    /** "words and numbers side by side need one". */
    private void wordsAndNumbersSideBySide() {
        bad(1, "days@5;");
        bad(1, "days 5;person a mind@1 asks 1;");
        bad(1, "days 5;person a mind 1@asks 1;");
        bad(1, "days 5;frost 1@for 1;");
        bad(1, "days 5;thinks@1=1;");
        bad(1, "days 5;thinks 1=1@and all;");
        bad(1, "days 5;thinks 1=1 and@1=1;");
        bad(1, "days 5;person a@1 mind 1 asks 1;");
        bad(1, Texts.town(5, 1) + "told a on@1;");
        good("days 5;thinks(1)=(1)and all;");
    }

    /** "the first byte with which no such text goes on (words and numbers whole, at their first byte". */
    private void wholeWordsAndNumbers() {
        bad(1, "days 5;@per mind 1;");
        bad(1, "days 5;@persona mind 1;");
        bad(1, "days 5;person a @min 1 asks 1;");
        bad(1, "days 5;person a @minds 1 asks 1;");
        bad(1, "days 5;thinks @da=1;");
        bad(1, "days 5;thinks @abcdefgh=1;");
        bad(1, "days 5 @abcdefgh;");
        bad(1, "days 5 @12345;");
        bad(1, "days 5;person @12345 mind 1 asks 1;");
        bad(1, "days 5;slips 1 @2;");
        bad(1, "days 5;slips 1@,;");
        bad(1, "days 5;thinks min@=1;");
        bad(1, "days 5;thinks max @5=1;");
        bad(1, "days 5;thinks min@[1,2]=1;");
        bad(1, "days 5;thinks(1@,2)=1;");
    }

    /** "where a NAME is asked, an OWN WORD so": at its first byte, the one of seven letters, too. */
    private void ownWordWhereANameIsAsked() {
        bad(1, "days 5;person @reminds mind 1 asks 1;");
        bad(1, "days 5;person @on mind 1 asks 1;");
        bad(1, Texts.town(5, 1) + "told @reminds on 1;");
        bad(1, Texts.town(5, 1) + "reminds a @reminds;");
    }

    /** "a 7th letter of what is no OWN WORD at itself". */
    private void seventhLetter() {
        bad(1, "days 5;person abcdef@g mind 1 asks 1;");
        bad(1, "days 5;person abcdef@ghijklmnop mind 1 asks 1;");
        bad(1, "days 5;person remind@sx mind 1 asks 1;");
        bad(1, Texts.town(5, 1) + "told abcdef@g on 1;");
        bad(1, Texts.town(5, 1) + "reminds abcdef@g a;");
        bad(1, Texts.town(5, 1) + "reminds a abcdef@g;");
    }

    /** "where a number is asked, a 5th digit at itself". */
    private void fifthDigit() {
        String town = Texts.town(5, 1);
        bad(1, "days 0000@5;");
        bad(1, "days 9999@9999;");
        bad(1, "days 5;person a mind 0000@1 asks 1;");
        bad(1, "days 5;person a mind 1 asks 0000@1;");
        bad(1, town + "told a on 0000@1;");
        bad(1, town + "frost 0000@1 for 1;");
        bad(1, town + "frost 1 for 0000@1;");
        bad(1, town + "slips 0000@1;");
        bad(1, town + "mortal 0000@1;");
        bad(1, town + "thinks 1+0000@1=1;");
        bad(1, town + "hears 1=0000@1;");
        good("days 0005;person a mind 0001 asks 0001;told a on 0001;frost 0001 for 0001;slips 0001;mortal 0001;thinks 0001=1;");
    }

    /** "at the text's length, if it ends too soon": each text cut ahead of one of its words. */
    private void endsTooSoon() {
        String text = "days 5 ; person a mind 1 asks 1 ; person b mind 1 asks 1 ; told a on 1 ; reminds a b ; frost 1 for 2 ; "
            + "thinks not [ min ( 1 , 2 ) = 1 ] and ago > 3 - 1 or all ; hears ( 1 + 2 ) * 3 / 4 < other ; slips 1 ; mortal 1 ; ";
        for (int at = 1; at < text.length(); at++) {
            boolean ends = text.charAt(at - 1) == ' ' && text.charAt(at - 2) == ';';
            if (text.charAt(at) == ' ' && text.charAt(at - 1) != ';' || text.charAt(at - 1) == ' ' && !ends) {
                bad(1, text.substring(0, at) + "@");
            } else if (ends) {
                good(text.substring(0, at));
            }
        }
    }

    /** "2 a number that can't be ..., at it": also if the text ends there. */
    private void numberThatCantBe() {
        bad(2, "days @4");
        bad(2, "days  @91 ");
        bad(2, "days 5;person a mind @0");
        bad(2, "days 5;person a mind 1 asks @100");
        bad(2, Texts.town(5, 1) + "told a on @6");
        bad(2, Texts.town(5, 1) + "told a on 5;told a on @5");
        bad(2, "days 5;frost @6");
        bad(2, "days 5;frost 5 for @31");
        bad(2, "days 5;slips @9999");
        bad(2, "days 5;mortal @9999");
    }

    /** "3 a NAME to be given that is there already, one that is none of what is asked, or can't be". */
    private void namesThatCantBe() {
        bad(3, "days 5;person a mind 1 asks 1;person @a");
        bad(3, Texts.town(5, 8).replace("person h", "person @a"));
        bad(3, Texts.town(5, 2) + "told @c");
        bad(3, Texts.town(5, 2) + "reminds @c");
        bad(3, Texts.town(5, 2) + "reminds a @c");
        bad(3, Texts.town(5, 2) + "reminds a @a");
        bad(3, Texts.town(5, 2) + "reminds a b;reminds a @b");
        bad(3, "days 5;reminds @first");
    }

    /** "4 the 7th of ( [ not that is open at once ..., at it": of each kind, those of min and max, too. */
    private void seventhOpen() {
        good("days 5;thinks((((((1))))))=1;");
        bad(4, "days 5;thinks((((((@(1)))))))=1;");
        good("days 5;thinks[[[[[[all]]]]]];");
        bad(4, "days 5;thinks[[[[[[@[all]]]]]]];");
        good("days 5;thinks not not not not not not all;");
        bad(4, "days 5;thinks not not not not not not @not all;");
        good("days 5;thinks[not[not((1))=1]];");
        bad(4, "days 5;thinks[not[not((@(1)))=1]];");
        bad(4, "days 5;thinks((((((min@(1,2)))))))=1;");
        bad(4, "days 5;thinks((((((max @(1,2)))))))=1;");
        good("days 5;hears min(min(min(min(min(min(1,1),1),1),1),1),1)=1;");
        bad(4, "days 5;hears min(min(min(min(min(min(min@(1,1),1),1),1),1),1),1)=1;");
        bad(4, "days 5;thinks[[[[[[@not all]]]]]];");
        bad(4, "days 5;thinks not not not not not not @[all];");
        bad(4, "days 5;thinks not not not not not not @(1)=1;");
    }

    /** "not until its FACT ends": brackets until theirs, and what has ended counts no more. */
    private void openUntilItEnds() {
        good("days 5;thinks not not not not not not all and not not not not not not all;");
        good("days 5;thinks not not not not not not 1=1 or((((((1))))))=1;");
        good("days 5;thinks not not not not not[all]and[[[[[[all]]]]]];");
        bad(4, "days 5;thinks not not not not not not 1=@(1);");
        good("days 5;thinks not not not not[not all and not all];");
        bad(4, "days 5;thinks not not not not[not all and not @[all]];");
        good("days 5;thinks((((((1))))))=((((((1))))))and[[[[[[all]]]]]]or not not not not not not all;");
        good("days 5;thinks min(1,(((((1))))))=max((((((1))))),1);");
        good("days 5;thinks all;hears not not not not not not all;");
        good("days 5;thinks[[[[[not all]]]]]and[[[[[not all]]]]];");
        // what a text with a FAULT left open is not open in the next one
        ForgottenFeast x = new ForgottenFeast();
        c.fault(x, "days 5;thinks[[[[[[#", 1, 19);
        c.fault(x, "days 5;thinks[[[[[[all]]]]]];", 0, Check.NONE);
        c.askFault(x, "first[[[[[[[", 4, 11);
        c.askFault(x, "first[[[[[[all]]]]]]", 0, Check.NONE);
    }

    /** "5 one too many of a kind (a second thinks, hears, too) ..., at its first byte": whatever is behind it. */
    private void oneTooMany() {
        bad(5, Texts.town(5, 8) + "@person");
        bad(5, Texts.town(5, 8) + " @person a mind 0;");
        bad(5, Texts.town(5, 8) + Texts.told(30) + "@told x");
        bad(5, Texts.town(5, 8) + Texts.told(30) + "@told a on 1;");
        bad(5, Texts.town(5, 8) + Texts.reminds(20) + "@reminds a a;");
        bad(5, "days 5;" + many("frost 1 for 1;", 4) + "@frost 0;");
        bad(5, "days 5;thinks all;@thinks");
        bad(5, "days 5;hears all;@hears #");
    }

    /** "a 71st STATEMENT (whatever stands there), at its first byte". */
    private void seventyFirstStatement() {
        String text = "days 5;" + many("slips 1;", 69);
        for (String what : new String[] {"days 5;", "person a mind 1 asks 1;", ";", "x", "#", "12345", "abcdefgh", "\u00ff", "\t", "(", "thinks"}) {
            bad(5, text + "@" + what);
            bad(5, text + " \n@" + what);
        }
        good(text + " \n");
        good(text + " ".repeat(1600 - text.length()));
    }

    /** "FAULTS, the first along the text". */
    private void theFirstFaultCounts() {
        bad(2, "days @4;person on mind 0 asks 100;");
        bad(1, "days 5@#;slips 101;");
        bad(3, Texts.town(5, 2) + "told @c on 0;");
        bad(2, "days 5;person a mind @0 asks 100;");
        bad(3, Texts.town(5, 2) + "reminds @c c;");
        bad(4, "days 5;thinks[[[[[[@[#");
        bad(1, "days 5;thinks[[[[[[@#[");
        bad(2, "days 5;slips @101;" + many("slips 1;", 70));
        bad(5, "days 5;thinks all;@thinks[[[[[[[all;");
    }
}
