/** Terms III, promises 11 to 23: each boundary case on its own. */
public final class EdgesAheadTest {
    private static final int[] FAR = {Integer.MIN_VALUE, -2, -1, 121, 122, 200, Integer.MAX_VALUE};

    private final Check c;

    private EdgesAheadTest(Check c) {
        this.c = c;
    }

    public static void main(String[] args) {
        Check c = new Check("EdgesAheadTest");
        EdgesAheadTest t = new EdgesAheadTest(c);
        t.oneToHundredAndTwenty();
        t.noneBeyondTheLastYear();
        t.withoutATown();
        t.laterForOthers();
        t.withoutOtherActs();
        t.laterIsTheFeast();
        t.firstAmongHundredAndTwenty();
        t.firstAtTheEnd();
        t.firstForOthers();
        t.hangsOnEach();
        t.hangsOnNobody();
        t.hangsOnTheLastByNumber();
        t.bribedToo();
        t.sureOfNone();
        t.sureOfAll();
        t.slipsOfNobody();
        t.slipsOfEight();
        t.slipsFloor();
        t.slipsByThemselvesAlone();
        t.bribesOfAll();
        t.bribedAlready();
        t.cheapestOfLikeOnes();
        t.cheapestUpToTheFeast();
        t.cheapestOfThisYear();
        t.cheapestNone();
        t.enoughFewest();
        t.enoughLeastBits();
        t.enoughOfEight();
        t.enoughNobodyBribed();
        t.enoughNone();
        t.turnsZeroToTwo();
        t.turnsOneAndTwo();
        t.turnsByTheBest();
        t.turnsNotToldSoFar();
        t.turnsOfTheLastByNumber();
        t.turnsAsIfNobody();
        t.turnsOfWhoHasNoneLeft();
        t.turnsNone();
        t.seeOneToEightRows();
        t.seeThatCannotBe();
        t.seenStays();
        t.thoughtAllSets();
        t.thoughtWithout();
        t.thoughtOfWhoLives();
        t.thoughtNone();
        t.hoursOneDeepToTwenty();
        t.hoursOfARing();
        t.hoursOfAFewWhoLive();
        t.hoursNever();
        t.lawNumbers();
        t.lawAboveT();
        t.lawFromTheFirstRow();
        t.lawOfSixtyRows();
        t.lawNobodyRemindedBribedOrDead();
        t.lawNone();
        c.close();
    }

    private static ForgottenFeast nearTheEnd(int daysLeft) {
        ForgottenFeast x = Check.of(Texts.town(5, 2) + "thinks all;reminds a b;");
        endsSoon(x, daysLeft);
        return x;
    }

    private static void endsSoon(ForgottenFeast x, int daysLeft) {
        Check.on(x, Check.sealed(3, 231, 5 - daysLeft, 0, 0, 0, 0, 0, 0, 0, 0, 0, 0, 0));
    }

    private static void life(ForgottenFeast x) {
        Check.town(x, Texts.town(6, 3) + "reminds a b;reminds b c;told a on 2;told c on 5;mortal 100;slips 20;");
        x.go(7);
        x.bribe(0, 5);
        Check.see(x, 1, 1);
        x.image();
        Check.ask(x, "total x", 1);
    }

    private Twins busy() {
        return new Twins(c, EdgesAheadTest::life);
    }

    private Twins noTown() {
        return new Twins(c, x -> x.seed(4));
    }

    private Twins atTheEnd() {
        return new Twins(c, x -> {
            Check.town(x, Texts.town(5, 2) + "thinks all;reminds a b;");
            endsSoon(x, 0);
        });
    }

    private void none(String call, long answer) {
        c.due(call, answer, Check.NONE);
    }

    /** All that asks for the n-th DAY AHEAD, or for n of them. */
    private void allNone(String when, ForgottenFeast x, int n) {
        for (int what = 0; what < 5; what++) {
            none(when + "later(" + n + ", " + what + ")", x.later(n, what));
        }
        none(when + "hangs(" + n + ")", x.hangs(n));
        none(when + "sure(" + n + ")", x.sure(n));
        none(when + "slips(" + n + ")", x.slips(n));
        none(when + "costs(" + n + ")", x.costs(n));
        c.due(when + "ask(" + n + ")", Check.ask(x, "often all", n), Check.NOTHING);
    }

    private void noneIsNone(String when, ForgottenFeast x, int n) {
        c.due(when + "later(" + n + ", 3)", x.later(n, 3) > 0, true);
        c.due(when + "hangs(" + n + ")", x.hangs(n) >= 0, true);
        c.due(when + "sure(" + n + ")", x.sure(n) >= 0, true);
        c.due(when + "slips(" + n + ")", x.slips(n) >= 0, true);
        c.due(when + "costs(" + n + ")", x.costs(n) >= 0, true);
        c.due(when + "ask(" + n + ")", Check.ask(x, "often all", n), 2);
    }

    /** "(120 at most ...; 1: the next one)"; "NONE when n can't be". */
    private void oneToHundredAndTwenty() {
        ForgottenFeast x = Check.of(Texts.town(90, 2) + "thinks all;");
        c.due("the next one", x.later(1, 3), 1);
        c.due("its YEAR", x.later(1, 2), 1);
        c.due("the last of this YEAR", x.later(90, 3), 90);
        c.due("the first of the next", x.later(91, 2), 2);
        c.due("the 120th", x.later(120, 3), 30);
        noneIsNone("", x, 1);
        noneIsNone("", x, 120);
        allNone("", x, 0);
        for (int n : FAR) {
            allNone("", x, n);
            busy().untold("later(" + n + ", 0)", y -> y.later(n, 0));
            busy().untold("hangs(" + n + ")", y -> y.hangs(n));
            busy().untold("sure(" + n + ")", y -> y.sure(n));
            busy().untold("slips(" + n + ")", y -> y.slips(n));
            busy().untold("costs(" + n + ")", y -> y.costs(n));
        }
    }

    /** "none beyond YEAR 999". */
    private void noneBeyondTheLastYear() {
        for (int left = 1; left <= 3; left++) {
            ForgottenFeast x = nearTheEnd(left);
            noneIsNone(left + " left: ", x, left);
            c.due("the last one", x.later(left, 3), 5);
            c.due("the last YEAR", x.later(left, 2), 999);
            allNone(left + " left: ", x, left + 1);
            allNone(left + " left: ", x, 120);
        }
        allNone("none left: ", nearTheEnd(0), 1);
        ForgottenFeast x = Check.of(Texts.town(90, 2) + "thinks all;");
        Check.on(x, Check.sealed(3, 230, 60, 0, 0, 0, 0, 0, 0, 0, 0, 0, 0, 0));
        noneIsNone("120 left: ", x, 120);
        Check.on(x, Check.sealed(3, 230, 61, 0, 0, 0, 0, 0, 0, 0, 0, 0, 0, 0));
        noneIsNone("119 left: ", x, 119);
        allNone("119 left: ", x, 120);
        Check.on(x, Check.sealed(3, 231, 1, 0, 0, 0, 0, 0, 0, 0, 0, 0, 0, 0));
        noneIsNone("89 left: ", x, 89);
        allNone("89 left: ", x, 90);
    }

    /** "without a town": ahead of the first, and behind one that had a FAULT. */
    private void withoutATown() {
        ForgottenFeast x = new ForgottenFeast();
        for (int i = 0; i < 2; i++) {
            allNone("no town: ", x, 1);
            allNone("no town: ", x, 120);
            none("first(0)", x.first(0));
            none("first(1)", x.first(1));
            none("cheapest(0)", x.cheapest(0));
            none("cheapest(1)", x.cheapest(1));
            none("enough(0)", x.enough(0));
            none("turnsOf(0)", x.turnsOf(0));
            none("thought(0)", x.thought(0));
            none("hours(1)", x.hours(1));
            none("law(0)", x.law(0));
            Check.town(x, "days 90;person a mind 1 asks 1;x");
        }
        noTown().untold("later(1, 0)", y -> y.later(1, 0));
    }

    /** "NONE ... for others". */
    private void laterForOthers() {
        ForgottenFeast x = Check.of(Texts.town(5, 2) + "thinks all;");
        for (int what : new int[] {-1, 5, 6, Integer.MIN_VALUE, Integer.MAX_VALUE}) {
            none("later(1, " + what + ")", x.later(1, what));
        }
        busy().untold("later(1, 5)", y -> y.later(1, 5));
    }

    /** "as they come from now on without other ACTS": what comes then is what was told; nobody dies of mortal. */
    private void withoutOtherActs() {
        String town = Texts.town(7, 4) + "reminds a b;reminds d c;thinks ago*mind>5 or told=1;hears other<3 or day>3;told d on 2;mortal 1000;";
        ForgottenFeast x = Check.of(town);
        x.bribe(3, 2);
        int[][] told = new int[40][4];
        for (int n = 1; n <= 40; n++) {
            told[n - 1] = new int[] {x.later(n, 2), x.later(n, 3), Integer.bitCount(x.later(n, 1)), x.later(n, 4)};
        }
        x.go(40);
        for (int n = 1; n <= 40; n++) {
            for (int what = 0; what < 4; what++) {
                c.due("kept(" + (n - 1) + ", " + what + ")", x.kept(n - 1, what), told[n - 1][what]);
            }
        }
    }

    /** "4 whether it is the FEAST": one a YEAR, none if the YEAR had it. */
    private void laterIsTheFeast() {
        ForgottenFeast x = Check.of(Texts.town(5, 1));
        for (int gone = 0; gone < 5; gone++) {
            for (int n = 1; n <= 12; n++) {
                c.due(gone + " gone, later(" + n + ", 4)", x.later(n, 4), (gone + n) % 5 == 1 ? 1 : 0);
            }
            x.go(1);
        }
    }

    /** "in how many DAYS. NONE without": 1 at least, 120 at most. */
    private void firstAmongHundredAndTwenty() {
        ForgottenFeast x = Check.of(Texts.town(5, 1));
        c.due("the next DAY is the FEAST", x.first(0), 1);
        x.go(1);
        c.due("in five DAYS", x.first(0), 5);
        none("never a FAST", x.first(1));
        x = Check.of(Texts.town(90, 2) + "thinks not[day=30 and year=2];");
        c.due("a FEAST in 120 DAYS", x.first(0), 120);
        none("never a FAST", x.first(1));
        x = Check.of(Texts.town(90, 2) + "thinks not[day=31 and year=2];");
        none("a FEAST in 121 DAYS", x.first(0));
        x = Check.of(Texts.town(90, 2) + "thinks mind=1 or day<30 or year=1;");
        c.due("a FAST in 120 DAYS", x.first(1), 120);
        x = Check.of(Texts.town(90, 2) + "thinks mind=1 or day<31 or year=1;");
        none("a FAST in 121 DAYS", x.first(1));
        x.go(1);
        c.due("a FAST in 120 DAYS", x.first(1), 120);
    }

    /** AHEAD is "none beyond YEAR 999". */
    private void firstAtTheEnd() {
        ForgottenFeast x = Check.of(Texts.town(5, 2) + "thinks day<4 and mind=1 or day=4;");
        endsSoon(x, 3);
        c.due("a FAST on the next DAY", x.first(1), 1);
        c.due("a FEAST on the last DAY", x.first(0), 3);
        endsSoon(x, 2);
        none("no FAST any more", x.first(1));
        endsSoon(x, 0);
        none("no FEAST any more", x.first(0));
    }

    private void firstForOthers() {
        ForgottenFeast x = Check.of(Texts.town(5, 2));
        for (int what : new int[] {-1, 2, 3, Integer.MIN_VALUE, Integer.MAX_VALUE}) {
            none("first(" + what + ")", x.first(what));
        }
        busy().untold("first(2)", y -> y.first(2));
        noTown().untold("first(0)", y -> y.first(0));
    }

    /** "HANGS on each one, if nobody would think, were he alone bribed for it": whom he reminds hangs on him. */
    private void hangsOnEach() {
        ForgottenFeast x = Check.of(Texts.town(5, 8) + Texts.ringBackwards(8) + "thinks mind=day;");
        for (int n = 1; n <= 5; n++) {
            c.due("all think", x.later(n, 1), 255);
            c.due("but by one alone", x.hangs(n), 1 << n - 1);
        }
        x = Check.of(Texts.town(5, 8) + "thinks mind=1 or mind=2 and day=2;");
        c.due("one", x.hangs(1), 1);
        c.due("of two neither", x.hangs(2), 0);
    }

    /** "(0 on nobody, or when nobody thinks)". */
    private void hangsOnNobody() {
        ForgottenFeast x = Check.of(Texts.town(5, 8) + "thinks day=1;");
        c.due("all think", x.hangs(1), 0);
        c.due("nobody thinks", x.hangs(2), 0);
        c.due("nobody lives there", Check.of("days 5;thinks all;").hangs(1), 0);
    }

    private void hangsOnTheLastByNumber() {
        c.due("hangs(1)", Check.of(Texts.town(5, 8) + "thinks mind=8;").hangs(1), 128);
        c.due("hangs(120)", Check.of(Texts.town(90, 8) + "thinks mind=8 and day=30 and year=2;").hangs(120), 128);
    }

    /** "too": besides those who are bribed already. */
    private void bribedToo() {
        ForgottenFeast x = Check.of(Texts.town(5, 3) + "reminds c b;thinks not mind=2;");
        c.due("on nobody", x.hangs(2), 0);
        x.bribe(0, 2);
        c.due("on c", x.hangs(2), 4);
        c.due("in the next YEAR on nobody", x.hangs(7), 0);
        x.bribe(2, 2);
        c.due("nobody thinks", x.hangs(2), 0);
    }

    /** "somebody thinks, and they HANG on nobody". */
    private void sureOfNone() {
        c.due("nobody thinks", Check.of(Texts.town(5, 8) + "thinks not all;").sure(120), 0);
        c.due("one thinks", Check.of(Texts.town(5, 8) + "thinks mind=8;").sure(120), 0);
        c.due("one, and whom he reminds", Check.of(Texts.town(5, 8) + Texts.ringBackwards(8) + "thinks mind=8;").sure(120), 0);
    }

    private void sureOfAll() {
        ForgottenFeast x = Check.of(Texts.town(5, 2) + "thinks all;");
        for (int n : new int[] {1, 2, 119, 120}) {
            c.due("sure(" + n + ")", x.sure(n), n);
        }
        x = Check.of(Texts.town(5, 2) + "thinks day=2 or day=3 and mind=1;");
        int[] due = {0, 1, 1, 1, 1, 1, 2};
        for (int n = 1; n <= 7; n++) {
            c.due("sure(" + n + ")", x.sure(n), due[n - 1]);
        }
        x.go(2);
        c.due("sure(1)", x.sure(1), 0);
        c.due("sure(5)", x.sure(5), 1);
    }

    /** "1000000 when nobody thinks of himself". */
    private void slipsOfNobody() {
        for (int slips : new int[] {0, 1, 99, 100}) {
            ForgottenFeast x = Check.of(Texts.town(5, 8) + "thinks day=2;slips " + slips + ";");
            c.due("nobody", x.slips(1), 1000000);
            c.due("eight", x.slips(2), slips == 100 ? 1000000 : slips == 99 ? 922744 : 0);
        }
        c.due("nobody lives there", Check.of("days 5;thinks all;").slips(1), 1000000);
    }

    /** "how likely nobody thinks ..., if each who would forgets with slips of a hundred", of one to eight. */
    private void slipsOfEight() {
        for (int slips = 0; slips <= 100; slips++) {
            ForgottenFeast x = Check.of(Texts.town(9, 8) + "thinks mind<day;slips " + slips + ";");
            java.math.BigInteger top = java.math.BigInteger.valueOf(1000000);
            java.math.BigInteger below = java.math.BigInteger.ONE;
            for (int n = 1; n <= 9; n++) {
                c.due("slips " + slips + ", " + (n - 1), x.slips(n), top.divide(below).intValue());
                top = top.multiply(java.math.BigInteger.valueOf(slips));
                below = below.multiply(java.math.BigInteger.valueOf(100));
            }
        }
    }

    /** "in millionths (floor". */
    private void slipsFloor() {
        c.due("of 96059601 hundredths of millionths", slipsOf(4, 99), 960596);
        c.due("of 10000 millionths", slipsOf(1, 1), 10000);
        c.due("of 100 millionths", slipsOf(2, 1), 100);
        c.due("of 1 millionth", slipsOf(3, 1), 1);
        c.due("of a hundredth of a millionth", slipsOf(4, 1), 0);
        c.due("of 98.5 millionths", slipsOf(8, 31), 85);
    }

    private static int slipsOf(int people, int slips) {
        return Check.of(Texts.town(5, people) + "thinks all;slips " + slips + ";").slips(1);
    }

    /** "nobody thinks of himself": who is reminded does not count, nor who is bribed or dead. */
    private void slipsByThemselvesAlone() {
        ForgottenFeast x = Check.of(Texts.town(5, 4) + "reminds a b;thinks mind=1 or mind>2;slips 50;");
        c.due("three", x.slips(1), 125000);
        x.bribe(2, 1);
        c.due("two", x.slips(1), 250000);
        x.dies(3);
        c.due("one", x.slips(1), 500000);
        x.dies(0);
        c.due("nobody", x.slips(1), 1000000);
    }

    /** "all who think of themselves on it (each bribed for it alone): what that costs together". */
    private void bribesOfAll() {
        ForgottenFeast x = Check.of(Texts.town(5, 8) + "thinks day=2 or mind=8 and day=3;");
        c.due("nobody", x.costs(1), 0);
        c.due("all eight", x.costs(2), 11 + 12 + 13 + 14 + 15 + 16 + 17 + 18);
        c.due("the last one", x.costs(3), 18);
        StringBuilder dear = new StringBuilder("days 5;thinks all;");
        for (int p = 0; p < 8; p++) {
            dear.append("person ").append(Texts.name(p)).append(" mind 1 asks 99;");
        }
        c.due("792", Check.of(dear.toString()).costs(120), 792);
        c.due("for nothing", Check.of("days 5;thinks all;person a mind 1 asks 0;").costs(1), 0);
    }

    private void bribedAlready() {
        ForgottenFeast x = Check.of(Texts.town(5, 3) + "reminds b c;thinks mind<3;");
        c.due("a and b, not c", x.costs(2), 23);
        x.bribe(0, 2);
        c.due("b", x.costs(2), 12);
        x.dies(1);
        c.due("nobody", x.costs(2), 0);
        c.due("a in the next YEAR", x.costs(7), 11);
    }

    /** "the one for which that costs least; of like ones the first". */
    private void cheapestOfLikeOnes() {
        ForgottenFeast x = Check.of("days 6;person a mind 1 asks 5;person b mind 2 asks 5;person c mind 3 asks 4;"
            + "thinks day=1 or day=2 and mind=1 or day=3 and mind=2 or day>3 and mind=3;");
        c.due("4 coins on DAYS 4 to 6", x.cheapest(0), 4);
        c.due("coins", x.cheapest(1), 4);
        x.dies(2);
        c.due("without c DAY 4 is the FEAST", x.cheapest(0), 4);
        c.due("coins", x.cheapest(1), 0);
        x = Check.of("days 6;person a mind 1 asks 5;person b mind 2 asks 5;thinks day=1 or mind=1;");
        c.due("5 coins from DAY 2 on", x.cheapest(0), 2);
        x.go(5);
        c.due("the last DAY", x.cheapest(0), 6);
        x = Check.of("days 6;person a mind 1 asks 5;person b mind 2 asks 5;thinks day<6 or mind=1;");
        c.due("the last DAY", x.cheapest(0), 6);
    }

    /** "with no FEAST ahead of them": the FEAST itself has none ahead of it. */
    private void cheapestUpToTheFeast() {
        ForgottenFeast x = Check.of(Texts.town(6, 2) + "thinks day<4;");
        c.due("the FEAST", x.cheapest(0), 4);
        c.due("for nothing", x.cheapest(1), 0);
        x.go(3);
        c.due("the FEAST is next", x.cheapest(0), 4);
        x.go(1);
        none("it has been", x.cheapest(0));
        none("it has been", x.cheapest(1));
        x.go(2);
        none("it has been, and the YEAR is over", x.cheapest(0));
        x.go(1);
        c.due("the next YEAR", x.cheapest(0), 4);
    }

    /** "of DAYS AHEAD of this YEAR". */
    private void cheapestOfThisYear() {
        ForgottenFeast x = Check.of(Texts.town(90, 2) + "thinks day>1 or mind=1;");
        c.due("DAY 1 at first", x.cheapest(0), 1);
        x.go(1);
        c.due("not DAY 1 of the next YEAR", x.cheapest(0), 2);
        c.due("both", x.cheapest(1), 23);
        x.go(88);
        c.due("DAY 90", x.cheapest(0), 90);
        x.go(1);
        none("no DAY of this YEAR", x.cheapest(0));
        none("no DAY of this YEAR", x.cheapest(1));
        x.go(1);
        c.due("DAY 2", x.cheapest(0), 2);
    }

    /** "NONE when this YEAR has had its FEAST, there is none, without a town, or for others". */
    private void cheapestNone() {
        busy().untold("the FEAST has been", y -> y.cheapest(0));
        atTheEnd().untold("there is none", y -> y.cheapest(0));
        noTown().untold("without a town", y -> y.cheapest(1));
        ForgottenFeast x = Check.of(Texts.town(5, 2) + "thinks all;");
        for (int what : new int[] {-1, 2, 3, Integer.MIN_VALUE, Integer.MAX_VALUE}) {
            none("cheapest(" + what + ")", x.cheapest(what));
        }
    }

    /** "the fewest PEOPLE (who live) who must think of themselves on the next DAY so that all who live think". */
    private void enoughFewest() {
        for (int people = 1; people <= 8; people++) {
            ForgottenFeast x = Check.of(Texts.town(5, people));
            c.due("all of " + people, x.enough(0), people);
            c.due("all of " + people, x.enough(1), (1 << people) - 1);
            if (people > 1) {
                x = Check.of(Texts.town(5, people) + Texts.ringBackwards(people));
                c.due("one of " + people, x.enough(0), 1);
                c.due("the first of " + people, x.enough(1), 1);
            }
        }
        ForgottenFeast x = Check.of(Texts.town(5, 8) + Texts.ringBackwards(8));
        x.dies(7);
        c.due("g, who reminds all but in a row", x.enough(1), 64);
        x.dies(3);
        c.due("c and g", x.enough(1), 68);
        c.due("two", x.enough(0), 2);
    }

    /** "of like ones the least bits". */
    private void enoughLeastBits() {
        ForgottenFeast x = Check.of(Texts.town(5, 4) + "reminds a b;reminds b a;reminds c d;reminds d c;");
        c.due("a and c, not b or d", x.enough(1), 5);
        x = Check.of(Texts.town(5, 4) + "reminds b a;reminds d c;reminds d b;reminds c b;reminds c a;");
        c.due("d alone", x.enough(1), 8);
        x = Check.of(Texts.town(5, 3) + "reminds b a;reminds b c;reminds c a;reminds c b;");
        c.due("b, not c", x.enough(1), 2);
    }

    private void enoughOfEight() {
        ForgottenFeast x = Check.of(Texts.town(5, 8) + "reminds h a;reminds h b;reminds h c;reminds h d;reminds h e;reminds h f;reminds h g;");
        c.due("h alone", x.enough(1), 128);
        Check.town(x, Texts.town(5, 8) + "reminds h a;reminds h b;reminds h c;reminds h d;reminds h e;reminds h f;reminds h g;hears mind<7;");
        c.due("g is not heard", x.enough(1), 192);
        Check.town(x, Texts.town(5, 8) + Texts.ringBackwards(8) + "hears other=mind+1;");
        c.due("all but the last hear the next one", x.enough(1), 128);
    }

    /** "(nobody bribed)"; and whoever is told off. */
    private void enoughNobodyBribed() {
        ForgottenFeast x = Check.of(Texts.town(5, 2) + "reminds a b;");
        x.bribe(0, 1);
        x.bribe(1, 1);
        c.due("enough(0)", x.enough(0), 1);
        c.due("enough(1)", x.enough(1), 1);
    }

    /** "NONE without one who lives, or a DAY to come, or for others". */
    private void enoughNone() {
        new Twins(c, y -> {
            life(y);
            y.dies(0);
            y.dies(1);
            y.dies(2);
        }).untold("nobody lives", y -> y.enough(0));
        atTheEnd().untold("no DAY to come", y -> y.enough(1));
        noTown().untold("without a town", y -> y.enough(0));
        ForgottenFeast x = Check.of(Texts.town(5, 2));
        for (int what : new int[] {-1, 2, 3, Integer.MIN_VALUE, Integer.MAX_VALUE}) {
            none("enough(" + what + ")", x.enough(what));
        }
        c.due("the last DAY", nearTheEnd(1).enough(1), 1);
        x.dies(0);
        c.due("one who lives", x.enough(1), 2);
    }

    /** "n rounds (0 .. 2)"; "NONE when n can't be". */
    private void turnsZeroToTwo() {
        ForgottenFeast x = Check.of(Texts.town(5, 8) + "thinks all;");
        for (int n = 0; n <= 2; n++) {
            c.due("turnsOf(" + n + ")", x.turnsOf(n), 1);
        }
        for (int n : new int[] {-1, 3, 4, Integer.MIN_VALUE, Integer.MAX_VALUE}) {
            none("turnsOf(" + n + ")", x.turnsOf(n));
            busy().untold("turnsOf(" + n + ")", y -> y.turnsOf(n));
        }
    }

    /** Each round is one more to bribe. */
    private void turnsOneAndTwo() {
        int[][] due = {{0, 0, 0}, {1, 0, 0}, {1, 1, 0}, {1, 1, 1}, {1, 1, 1}};
        for (int thinking = 0; thinking <= 4; thinking++) {
            ForgottenFeast x = Check.of(Texts.town(5, 4) + "thinks mind<" + (thinking + 1) + ";");
            for (int n = 0; n <= 2; n++) {
                c.due(thinking + " think, turnsOf(" + n + ")", x.turnsOf(n), due[thinking][n]);
            }
        }
    }

    /** "by the best of both". */
    private void turnsByTheBest() {
        ForgottenFeast x = Check.of(Texts.town(5, 4) + "thinks told=1 or mind=1;");
        c.due("a, and one who is told off", x.turnsOf(1), 1);
        c.due("two told off besides a, two bribed", x.turnsOf(2), 1);
        x = Check.of(Texts.town(5, 4) + "thinks told=1;");
        c.due("one told off, one bribed", x.turnsOf(1), 0);
        c.due("two told off, two bribed", x.turnsOf(2), 0);
        x = Check.of(Texts.town(5, 4) + "thinks told=0 and mind<4;");
        c.due("d is told off, one of three bribed", x.turnsOf(1), 1);
        c.due("he is told off, too, and another bribed", x.turnsOf(2), 1);
        x = Check.of(Texts.town(5, 4) + "thinks told=0;");
        c.due("of four one is told off, another bribed", x.turnsOf(1), 1);
        c.due("he is told off, too, and a third bribed", x.turnsOf(2), 1);
        x = Check.of(Texts.town(5, 3) + "thinks told=0;");
        c.due("of three one is told off, another bribed", x.turnsOf(1), 1);
        c.due("the third one is bribed", x.turnsOf(2), 0);
    }

    /** "(not told so far)": while there is one left, he who tells off has to, though it would be better not to. */
    private void turnsNotToldSoFar() {
        ForgottenFeast x = Check.of(Texts.town(5, 3) + "thinks mind=1 or told=0;");
        c.due("a or b or c, one told off, one bribed", x.turnsOf(1), 1);
        c.due("a is told off and bribed, then b or c told off, the other bribed", x.turnsOf(2), 0);
        x = Check.of(Texts.town(5, 4) + "thinks mind=1 or mind<4 and told=0;");
        c.due("d can be told off in their place", x.turnsOf(2), 1);
    }

    private void turnsOfTheLastByNumber() {
        ForgottenFeast x = Check.of(Texts.town(5, 8) + "thinks mind=8 or mind=7 and told=1;");
        c.due("h, or g told off", x.turnsOf(1), 1);
        c.due("both are bribed", x.turnsOf(2), 0);
        x = Check.of(Texts.town(5, 8) + "thinks mind=8;");
        c.due("h is bribed", x.turnsOf(1), 0);
        x = Check.of(Texts.town(5, 8) + "thinks mind<3 or mind=8 and told=1;");
        c.due("h told off, a and b: two are bribed", x.turnsOf(2), 1);
        x = Check.of(Texts.town(5, 8) + "thinks mind=8 and told=0 or mind=1 and told=0 or mind=2 and told=1;");
        c.due("b told off, h or a bribed", x.turnsOf(1), 1);
    }

    /** "as if nobody were told off or bribed for it"; "one of those who live". */
    private void turnsAsIfNobody() {
        ForgottenFeast x = Check.of(Texts.town(5, 3) + "told a on 1;told b on 1;thinks told=1;");
        x.bribe(2, 1);
        c.due("nobody told off", x.turnsOf(0), 0);
        x = Check.of(Texts.town(5, 2) + "thinks all;");
        x.bribe(0, 1);
        x.bribe(1, 1);
        c.due("nobody bribed", x.turnsOf(0), 1);
        c.due("one bribed", x.turnsOf(1), 1);
        x.dies(1);
        c.due("who is dead is none", x.turnsOf(0), 1);
        c.due("and a is bribed", x.turnsOf(1), 0);
        x.go(1);
        c.due("of DAY 2", x.turnsOf(0), 1);
        x = Check.of(Texts.town(5, 2) + "thinks day=2;");
        c.due("of DAY 1", x.turnsOf(0), 0);
        x.go(1);
        c.due("of DAY 2", x.turnsOf(1), 1);
    }

    /** "(who has none left does nothing)". */
    private void turnsOfWhoHasNoneLeft() {
        ForgottenFeast x = Check.of(Texts.town(5, 1) + "thinks all;");
        c.due("one", x.turnsOf(2), 0);
        x.dies(0);
        for (int n = 0; n <= 2; n++) {
            c.due("nobody lives, turnsOf(" + n + ")", x.turnsOf(n), 0);
        }
        c.due("nobody lives there", Check.of("days 5;thinks all;").turnsOf(2), 0);
        c.due("one of eight", Check.of(Texts.town(5, 8) + "thinks mind=8;").turnsOf(2), 0);
        x = Check.of(Texts.town(5, 8) + "thinks all;");
        for (int p = 0; p < 7; p++) {
            x.dies(p);
        }
        c.due("the last one", x.turnsOf(0), 1);
        c.due("the last one is bribed", x.turnsOf(2), 0);
    }

    /** "NONE ... without a DAY to come". */
    private void turnsNone() {
        atTheEnd().untold("no DAY to come", y -> y.turnsOf(0));
        noTown().untold("without a town", y -> y.turnsOf(0));
        c.due("the last DAY", nearTheEnd(1).turnsOf(1), 1);
    }

    /** "1 to 8 rows of two bytes, PERSON who lives, 1 if he thought, else 0: how many rows". */
    private void seeOneToEightRows() {
        ForgottenFeast x = Check.of(Texts.town(5, 8));
        int[] rows = new int[16];
        for (int n = 1; n <= 8; n++) {
            rows[2 * n - 2] = 8 - n;
            rows[2 * n - 1] = n % 2;
            c.due(n + " rows", Check.see(x, java.util.Arrays.copyOf(rows, 2 * n)), n);
            c.due("has(10)", x.has(10), n);
            c.due("they take the place of those ahead", x.thought(0), 1 << 8 - n);
            c.due("the tape is gone", x.feed(0, 0, 0, 0, 0), 20);
        }
        c.due("thought(1)", x.thought(1), 0b10101010);
        c.due("thought(2)", x.thought(2), 0b10101010);
        c.due("one row again", Check.see(x, 3, 1), 1);
        c.due("thought(0)", x.thought(0), 128);
        c.due("status(1)", x.status(1), 0);
    }

    private static byte[] bytes(int... of) {
        byte[] b = new byte[of.length];
        for (int i = 0; i < b.length; i++) {
            b[i] = (byte) of[i];
        }
        return b;
    }

    /** "NONE, refused (1), all staying, when it is none such" (the tape goes). */
    private void seeThatCannotBe() {
        int[][] wrong = {{}, {0}, {0, 1, 0}, {3, 1}, {4, 0}, {8, 1}, {32, 1}, {255, 0}, {0, 2}, {0, 255}, {0, 1, 3, 0}, {0, 1, 1, 2},
            {0, 1, 0, 1, 0, 1, 0, 1, 0, 1, 0, 1, 0, 1, 0, 1, 0, 1}, {0, 1, 0, 1, 0, 1, 0, 1, 0, 1, 0, 1, 0, 1, 0, 1, 0},
            {0, 1, 0, 1, 0, 1, 0, 1, 0, 1, 0, 1, 0, 1, 3, 1}, new int[1600]};
        for (int[] w : wrong) {
            busy().refusedTape("see() of " + w.length + " bytes", bytes(w), x -> x.see(), Check.NONE, 1);
        }
        new Twins(c, x -> {
            life(x);
            x.dies(1);
        }).refusedTape("he is dead", bytes(1, 0), x -> x.see(), Check.NONE, 1);
        noTown().refusedTape("without a town", bytes(0, 0), x -> x.see(), Check.NONE, 1);
        noTown().refusedTape("without a town, nothing", bytes(), x -> x.see(), Check.NONE, 1);
    }

    /** SEEN goes with town() alone. */
    private void seenStays() {
        ForgottenFeast x = Check.of(Texts.town(5, 2));
        Check.see(x, 1, 1);
        x.go(3);
        c.due("go()", x.has(10), 1);
        x.undo();
        c.due("undo()", x.has(10), 1);
        x.dies(1);
        c.due("dies()", x.has(10), 1);
        Check.on(x, Check.image(x));
        c.due("on()", x.has(10), 1);
        Check.town(x, "days");
        c.due("a FAULT", x.has(10), 1);
        Check.town(x, Texts.town(5, 2));
        c.due("town()", x.has(10), 0);
        c.due("all sets again", x.thought(0), 4);
    }

    /** "(all sets, if nothing is)": the empty one and the full one, too. */
    private void thoughtAllSets() {
        for (int people = 0; people <= 8; people++) {
            ForgottenFeast x = Check.of(Texts.town(5, people) + "thinks all;");
            c.due("sets of " + people, x.thought(0), 1 << people);
            c.due("in all of them", x.thought(1), 0);
            c.due("in some", x.thought(2), (1 << people) - 1);
        }
        ForgottenFeast x = Check.of(Texts.town(5, 8) + Texts.ringBackwards(8));
        Check.see(x, 0, 0);
        c.due("the empty set", x.thought(0), 1);
        c.due("in some", x.thought(2), 0);
        Check.see(x, 7, 1);
        c.due("all but the empty one", x.thought(0), 255);
        Check.town(x, Texts.town(5, 8) + "thinks all;");
        Check.see(x, 0, 1, 1, 1, 2, 1, 3, 1, 4, 1, 5, 1, 6, 1, 7, 1);
        c.due("the full one", x.thought(0), 1);
        c.due("in all of them", x.thought(1), 255);
    }

    /** "(1; 0 without)". */
    private void thoughtWithout() {
        ForgottenFeast x = Check.of(Texts.town(5, 2) + "reminds a b;");
        Check.see(x, 0, 1, 1, 0);
        c.due("no set", x.thought(0), 0);
        c.due("in all of none", x.thought(1), 0);
        c.due("in some of none", x.thought(2), 0);
        Check.see(x, 1, 1, 1, 0);
        c.due("he did and did not", x.thought(0), 0);
        c.due("in all of none", x.thought(1), 0);
    }

    /** "sets of those who live and are not bribed for it"; all by hears, as on the next DAY. */
    private void thoughtOfWhoLives() {
        ForgottenFeast x = Check.of(Texts.town(5, 8) + "reminds a b;reminds h b;hears other=8 and day=1;");
        Check.see(x, 1, 1);
        c.due("with b, or with h and without a", x.thought(0), 160);
        x.dies(7);
        c.due("with b", x.thought(0), 64);
        c.due("in all", x.thought(1), 2);
        c.due("in some", x.thought(2), 127);
        x.bribe(0, 1);
        x.bribe(6, 2);
        c.due("without a", x.thought(0), 32);
        x.go(1);
        c.due("without g, not a", x.thought(2), 63);
        x.bribe(1, 2);
        c.due("b is bribed", x.thought(0), 0);
        x = Check.of(Texts.town(5, 3) + "reminds a c;hears day=2;");
        Check.see(x, 2, 1);
        c.due("DAY 1: with c", x.thought(0), 4);
        x.go(1);
        c.due("DAY 2: with c or a", x.thought(0), 6);
    }

    /** "NONE without a DAY to come, or for others". */
    private void thoughtNone() {
        atTheEnd().untold("no DAY to come", y -> y.thought(0));
        noTown().untold("without a town", y -> y.thought(2));
        ForgottenFeast x = Check.of(Texts.town(5, 2));
        for (int what : new int[] {-1, 3, 4, Integer.MIN_VALUE, Integer.MAX_VALUE}) {
            none("thought(" + what + ")", x.thought(what));
        }
        c.due("the last DAY", nearTheEnd(1).thought(0), 4);
        c.due("nobody", Check.of("days 5;").thought(0), 1);
    }

    /** "n deep (1 .. 20): hours; NONE when ... n can't be". */
    private void hoursOneDeepToTwenty() {
        ForgottenFeast x = Check.of(Texts.town(5, 8) + Texts.ringBackwards(8));
        for (int n = 1; n <= 20; n++) {
            c.due("hours(" + n + ")", x.hours(n), 7 * n);
        }
        for (int n : new int[] {0, -1, 21, 22, Integer.MIN_VALUE, Integer.MAX_VALUE}) {
            none("hours(" + n + ")", x.hours(n));
            busy().untold("hours(" + n + ")", y -> y.hours(n));
        }
    }

    /** "the most hours that it takes from one to another": one to seven of them, from any one. */
    private void hoursOfARing() {
        for (int people = 2; people <= 8; people++) {
            c.due("a ring of " + people, Check.of(Texts.town(5, people) + Texts.ringBackwards(people)).hours(1), people - 1);
        }
        String far = Texts.town(5, 4) + "reminds b c;reminds c d;reminds d b;";
        c.due("most from a", Check.of(far + "reminds a d;reminds b a;reminds c a;reminds d a;").hours(1), 3);
        c.due("most from d", Check.of(far + "reminds a b;reminds a c;reminds b a;reminds c a;").hours(1), 2);
        c.due("all at once", Check.of(Texts.town(5, 3) + "reminds a b;reminds b a;reminds a c;reminds c a;reminds b c;reminds c b;").hours(3), 3);
    }

    /** "all who live": one alone knows at once; the dead neither tell nor need to know. */
    private void hoursOfAFewWhoLive() {
        c.due("one alone", Check.of(Texts.town(5, 1)).hours(20), 0);
        ForgottenFeast x = Check.of(Texts.town(5, 3) + "reminds a b;reminds b a;reminds b c;");
        none("c tells nobody", x.hours(1));
        x.dies(2);
        c.due("a and b", x.hours(1), 1);
        x.dies(1);
        c.due("a alone", x.hours(20), 0);
        x.dies(0);
        none("nobody lives", x.hours(1));
        x = Check.of(Texts.town(5, 4) + "reminds a b;reminds b c;reminds c a;reminds d a;reminds a d;");
        c.due("all four", x.hours(1), 3);
        x.dies(3);
        c.due("without d", x.hours(1), 2);
    }

    /** "NONE when they never do ..., or nobody lives". */
    private void hoursNever() {
        none("two who do not remind", Check.of(Texts.town(5, 2)).hours(1));
        none("one way", Check.of(Texts.town(5, 2) + "reminds a b;").hours(1));
        none("the other way", Check.of(Texts.town(5, 2) + "reminds b a;").hours(20));
        none("nobody", Check.of("days 5;").hours(1));
        noTown().untold("without a town", y -> y.hours(1));
        busy().untold("they never do", y -> y.hours(1));
    }

    /** "the numbers T (0 .. 98)": how many, the least, the greatest. */
    private void lawNumbers() {
        ForgottenFeast x = Check.of(Texts.town(5, 1) + "told a on 1;told a on 2;told a on 3;told a on 4;told a on 5;");
        x.go(200);
        c.due("all", x.law(0), 99);
        c.due("the least", x.law(1), 0);
        c.due("the greatest", x.law(2), 98);
        x = Check.of("days 5;");
        x.go(1);
        c.due("nobody", x.law(0), 99);
    }

    /** "told off or ago above T": each T of its own, up to the most that 60 rows can tell. */
    private void lawAboveT() {
        // this YEAR has had its FEAST, so that nobody's ago is 0 by another one
        for (int t = 0; t <= 98; t++) {
            ForgottenFeast x = Check.of(Texts.town(90, 2) + "thinks ago>" + t + ";");
            Check.on(x, Check.sealed(0, 1, 1, 1, 0, 0, 0, 0, 0, 0, 0, 0, 0, 0));
            x.go(Math.min(60, t + 2));
            boolean seen = t + 2 <= 60;
            c.due("T " + t + ", how many", x.law(0), seen ? 1 : 98 - 59 + 1);
            c.due("T " + t + ", the least", x.law(1), seen ? t : 59);
            c.due("T " + t + ", the greatest", x.law(2), seen ? t : 98);
        }
        ForgottenFeast x = Check.of(Texts.town(90, 8) + "thinks ago>3;");
        x.go(4);
        c.due("nobody thought for four DAYS", x.law(1), 3);
        c.due("and up to 98", x.law(2), 98);
        x = Check.of(Texts.town(90, 1) + "thinks told=1 or ago>3;told a on 1;");
        x.go(5);
        c.due("DAY 2 is the FEAST: nobody from DAY 2 to 5", x.law(1), 3);
        c.due("how many", x.law(0), 96);
        x = Check.of(Texts.town(90, 1) + "thinks day=1 or day=4;");
        Check.on(x, Check.sealed(0, 1, 1, 0, 0, 0, 0, 0, 0, 0, 0, 0));
        x.go(3);
        c.due("none on DAYS 2 and 3, one on DAY 4", x.law(0), 1);
        c.due("ago 2 is above 1", x.law(1), 1);
        c.due("and not above 2", x.law(2), 1);
    }

    /** "from the first row KEPT on (all thought then 0 DAYS ago)"; who thinks, ago 0. */
    private void lawFromTheFirstRow() {
        ForgottenFeast x = Check.of(Texts.town(6, 8) + "thinks ago>50 or told=1;");
        Check.on(x, Check.sealed(0, 1, 3, 1, 0, 0, 0, 99, 0, 99, 0, 99, 0, 99, 0, 99, 0, 99, 0, 99, 0, 99, 0, 0, 0, 0));
        x.go(1);
        c.due("they thought, but by no LAW on the first DAY", x.law(0), 0);
        none("the least", x.law(1));
        none("the greatest", x.law(2));
        x = Check.of(Texts.town(90, 1) + "thinks told=1 or ago>1 and feast=0;told a on 1;told a on 2;told a on 3;");
        x.go(3);
        c.due("told off on each", x.law(0), 99);
        x.go(1);
        c.due("DAY 4 nobody: ago was 0 ahead of it", x.law(1), 0);
        x.go(1);
        c.due("DAY 5 nobody: ago was 1 ahead of it", x.law(1), 1);
        x.tell(0, 2);
        c.due("by who is told off now", x.law(0), 0);
        x.tell(0, 2);
        x.tell(0, 90);
        c.due("another DAY", x.law(1), 1);
        x = Check.of(Texts.town(90, 1) + "thinks day=90 or day=1;told a on 90;");
        Check.on(x, Check.sealed(0, 1, 88, 2, 0, 0, 0, 0, 0, 1, 90, 0, 0, 0));
        x.go(2);
        c.due("the last DAY of the YEAR, told off", x.law(0), 99);
        x.go(1);
        c.due("DAY 1, ago 0", x.law(0), 0);
    }

    /** "the last 60 are told": a row that is gone counts no more. */
    private void lawOfSixtyRows() {
        ForgottenFeast x = Check.of(Texts.town(90, 8) + "thinks day=2;");
        x.go(2);
        c.due("nobody on DAY 1, all on DAY 2", x.law(0), 1);
        c.due("T is 0", x.law(2), 0);
        x.go(59);
        c.due("rows", x.has(9), 60);
        c.due("DAY 2 is the first row: they thought then", x.law(0), 0);
        x.go(1);
        c.due("60 rows without a thought", x.law(0), 98 - 59 + 1);
        c.due("the least", x.law(1), 59);
    }

    /** "(nobody reminded, bribed or dead, without FEASTS)". */
    private void lawNobodyRemindedBribedOrDead() {
        ForgottenFeast x = Check.of(Texts.town(5, 2) + "reminds a b;told a on 1;");
        x.go(1);
        c.due("b was reminded", x.law(0), 0);
        x = Check.of(Texts.town(5, 2) + "told a on 1;told b on 1;");
        x.bribe(1, 1);
        x.go(1);
        c.due("b was bribed", x.law(0), 0);
        x = Check.of(Texts.town(5, 2) + "told a on 1;told b on 1;");
        x.dies(1);
        x.go(1);
        c.due("b was dead", x.law(0), 0);
        x = Check.of(Texts.town(5, 8) + "told a on 2;told b on 2;told c on 2;told d on 2;told e on 2;told f on 2;told g on 2;told h on 2;");
        x.go(4);
        c.due("DAY 1 was a FEAST, ago 1 ahead of DAY 4", x.law(1), 1);
        c.due("how many", x.law(0), 98);
        x = Check.of(Texts.town(5, 1) + "told a on 1;");
        x.go(4);
        c.due("the FEAST on DAY 2 brings no ago of 0", x.law(1), 2);
    }

    /** "NONE when nothing is told as KEPT, or for others". */
    private void lawNone() {
        new Twins(c, y -> {
            life(y);
            y.undo();
            y.undo();
        }).untold("nothing is KEPT", y -> y.law(0));
        noTown().untold("without a town", y -> y.law(0));
        ForgottenFeast x = Check.of(Texts.town(5, 2));
        for (int what = 0; what < 3; what++) {
            none("nothing is KEPT", x.law(what));
        }
        x.go(1);
        c.due("one row", x.law(0), 99);
        for (int what : new int[] {-1, 3, 4, Integer.MIN_VALUE, Integer.MAX_VALUE}) {
            none("law(" + what + ")", x.law(what));
        }
        Check.on(x, Check.image(x));
        none("behind on()", x.law(0));
        x = nearTheEnd(1);
        x.go(1);
        c.due("without a DAY to come", x.law(0) >= 0, true);
    }
}
