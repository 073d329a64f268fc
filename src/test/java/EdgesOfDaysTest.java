/** Terms II and the acts, promises 24 to 30: each boundary case on its own. */
public final class EdgesOfDaysTest {
    private final Check c;

    private EdgesOfDaysTest(Check c) {
        this.c = c;
    }

    public static void main(String[] args) {
        Check c = new Check("EdgesOfDaysTest");
        EdgesOfDaysTest t = new EdgesOfDaysTest(c);
        t.firstEvening();
        t.dayOneOfTheNextYear();
        t.lastYear();
        t.bribesAreForThisYear();
        t.bribesAreGone();
        t.whoLives();
        t.whoIsNotBribed();
        t.toldOffWithoutThinks();
        t.byWhatIsAhead();
        t.againAndAgain();
        t.firstByNumberCounts();
        t.onlyOneIsAsked();
        t.whoCannotBeReminded();
        t.whoIsRemindedReminds();
        t.hearsOfEachDay();
        t.oneFeastAYear();
        t.agoOfWhoThinks();
        t.agoBehindTheFeast();
        t.ninetyNineAtMost();
        t.lastSixtyKept();
        t.rowsOfKept();
        t.keptThatThereAreNot();
        t.fast();
        t.lastTwentyUndone();
        t.ringOfActs();
        t.goingOneToTwoHundred();
        t.goingToTheEnd();
        t.goingThatCannotBe();
        t.telling();
        t.tellingThatCannotBe();
        t.thirtyTold();
        t.bribing();
        t.bribingThatCannotBe();
        t.thirtyBribed();
        t.coinsAtMost();
        t.dying();
        t.dyingThatCannotBe();
        t.drawing();
        t.drawsForWhoLives();
        t.belowMortal();
        t.chanceOneToHundred();
        t.chanceToTheEnd();
        t.chanceThatCannotBe();
        t.chanceIsOneAct();
        t.undoingAll();
        t.undoingNone();
        t.theSeedStays();
        t.seedFromZero();
        t.seedBelowZero();
        t.seedIsOneAtFirst();
        c.close();
    }

    /** Three who live, one told off, bribes to come, DAYS KEPT, ACTS to undo, rows SEEN, an image and a FAULT. */
    private static void busyLife(ForgottenFeast x) {
        Check.town(x, Texts.town(6, 3) + "reminds a b;reminds b c;told a on 2;told c on 5;mortal 100;slips 20;");
        x.go(8);
        x.bribe(0, 5);
        x.tell(1, 3);
        x.bribe(2, 6);
        Check.see(x, 1, 1);
        x.image();
        x.seed(5);
        Check.ask(x, "total x", 1);
    }

    /** The last evening but this many DAYS. */
    private static ForgottenFeast nearTheEnd(int daysLeft) {
        ForgottenFeast x = Check.of(Texts.town(5, 1) + "thinks all;");
        Check.on(x, Check.sealed(3, 231, 5 - daysLeft, 0, 0, 0, 0, 0, 0, 0, 0, 0));
        return x;
    }

    private Twins busy() {
        return new Twins(c, EdgesOfDaysTest::busyLife);
    }

    private Twins end(int daysLeft) {
        return new Twins(c, x -> {
            Check.town(x, Texts.town(5, 1) + "thinks all;");
            Check.on(x, Check.sealed(3, 231, 5 - daysLeft, 0, 0, 0, 0, 0, 0, 0, 0, 0));
        });
    }

    private Twins noTown() {
        return new Twins(c, x -> x.seed(4));
    }

    /** "the evening ahead of DAY 1 of YEAR 1 at first; all thought of it just now (0 DAYS ago)". */
    private void firstEvening() {
        ForgottenFeast x = Check.of(Texts.town(5, 8) + "thinks ago>0;");
        c.due("YEAR", x.has(3), 1);
        c.due("DAY", x.has(4), 0);
        c.due("FEAST", x.has(5), 0);
        for (int p = 0; p < 8; p++) {
            c.due("ago", x.person(p, 2), 0);
        }
        c.due("nobody's ago is above 0", x.later(1, 0), 0);
    }

    /** "behind the last one DAY 1 of the next YEAR". */
    private void dayOneOfTheNextYear() {
        for (int days : new int[] {5, 90}) {
            ForgottenFeast x = Check.of(Texts.town(days, 1) + "thinks day=1;");
            x.go(days);
            c.due("YEAR", x.has(3), 1);
            c.due("DAY", x.has(4), days);
            c.due("this YEAR's FEAST", x.has(5), 2);
            c.due("the next DAY", x.later(1, 3), 1);
            c.due("of the next YEAR", x.later(1, 2), 2);
            x.go(1);
            c.due("YEAR", x.has(3), 2);
            c.due("DAY", x.has(4), 1);
            c.due("this YEAR's FEAST", x.has(5), 0);
        }
    }

    /** "999 YEARS at most". */
    private void lastYear() {
        ForgottenFeast x = Check.of(Texts.town(5, 1) + "thinks all;");
        Check.on(x, Check.sealed(3, 230, 5, 0, 0, 0, 0, 0, 0, 0, 0, 0));
        c.due("YEAR", x.has(3), 998);
        c.due("go(5)", x.go(5), 0);
        c.due("YEAR", x.has(3), 999);
        c.due("DAY", x.has(4), 5);
        c.due("kept(0, 0)", x.kept(0, 0), 999);
        c.due("kept(4, 1)", x.kept(4, 1), 5);
        c.due("go(1)", x.go(1), Check.NONE);
        c.due("chance(1)", x.chance(1), Check.NONE);
        c.due("YEAR", x.has(3), 999);
        c.due("later(1, 3)", x.later(1, 3), Check.NONE);
    }

    /** "bribes are for this YEAR". */
    private void bribesAreForThisYear() {
        ForgottenFeast x = Check.of(Texts.town(5, 2) + "thinks all;");
        x.bribe(0, 2);
        c.due("DAY 2", x.later(2, 1), 2);
        c.due("DAY 2 of the next YEAR", x.later(7, 1), 3);
        x.go(6);
        c.due("bribes", x.has(7), 0);
        c.due("DAY 2 of it", x.later(1, 1), 3);
    }

    /** "and gone when their DAY has come". */
    private void bribesAreGone() {
        ForgottenFeast x = Check.of(Texts.town(5, 2) + "thinks all;");
        x.bribe(0, 2);
        x.bribe(1, 2);
        x.bribe(1, 5);
        x.go(1);
        c.due("ahead of it", x.has(7), 3);
        c.due("day(2, 1)", x.day(2, 1), 3);
        c.due("nobody thinks", x.go(1), 1);
        c.due("behind it", x.has(7), 1);
        c.due("day(2, 1)", x.day(2, 1), 0);
        c.due("day(5, 1)", x.day(5, 1), 2);
        x.go(3);
        c.due("the last DAY's", x.has(7), 0);
        c.due("kept(4, 2)", x.kept(4, 2), 1);
    }

    /** "who lives". */
    private void whoLives() {
        ForgottenFeast x = Check.of(Texts.town(5, 8) + "thinks all;");
        x.dies(0);
        x.dies(7);
        c.due("of himself", x.later(1, 0), 126);
        x = Check.of(Texts.town(5, 8) + "told a on 1;told h on 1;");
        x.dies(7);
        c.due("told off, without thinks", x.later(1, 0), 1);
    }

    /** "is not bribed for it". */
    private void whoIsNotBribed() {
        ForgottenFeast x = Check.of(Texts.town(90, 8) + "thinks all;");
        x.bribe(7, 90);
        x.bribe(0, 89);
        c.due("DAY 88", x.later(88, 0), 255);
        c.due("DAY 89", x.later(89, 0), 254);
        c.due("DAY 90", x.later(90, 0), 127);
        c.due("DAY 90 of the next YEAR is beyond, DAY 30 is not", x.later(120, 0), 255);
    }

    /** "who is told off without it". */
    private void toldOffWithoutThinks() {
        ForgottenFeast x = Check.of(Texts.town(90, 8) + "told a on 1;told h on 90;told d on 90;");
        c.due("DAY 1", x.later(1, 0), 1);
        c.due("DAY 2", x.later(2, 0), 0);
        c.due("DAY 90", x.later(90, 0), 136);
        c.due("DAY 1 of the next YEAR", x.later(91, 0), 1);
    }

    /** "all by what is ahead of the DAY, but the DAY, the YEAR, told, frost". */
    private void byWhatIsAhead() {
        c.due("ago", Check.of(Texts.town(5, 1) + "thinks ago=2;").later(3, 0), 0);
        c.due("ago: DAY 1 is the FEAST, 1 ahead of DAY 3", Check.of(Texts.town(5, 1) + "thinks ago=1;").later(3, 0), 1);
        c.due("feast on its DAY", Check.of(Texts.town(5, 1) + "thinks feast=1;").later(1, 0), 0);
        c.due("feast behind its DAY", Check.of(Texts.town(5, 1) + "thinks feast=1;").later(2, 0), 1);
        c.due("day", Check.of(Texts.town(5, 1) + "thinks day=5;").later(5, 0), 1);
        c.due("day", Check.of(Texts.town(5, 1) + "thinks day=1;").later(6, 0), 1);
        c.due("year", Check.of(Texts.town(5, 1) + "thinks year=2;").later(5, 0), 0);
        c.due("year", Check.of(Texts.town(5, 1) + "thinks year=2;").later(6, 0), 1);
        c.due("told", Check.of(Texts.town(5, 1) + "told a on 1;thinks told=1;").later(6, 0), 1);
        c.due("frost", Check.of(Texts.town(5, 1) + "frost 1 for 1;thinks frost=1;").later(6, 0), 1);
        c.due("frost", Check.of(Texts.town(5, 1) + "frost 5 for 1;thinks frost=1;").later(6, 0), 0);
    }

    /** "again and again till no one more does": a row of eight, each one behind him who reminds him, takes seven rounds. */
    private void againAndAgain() {
        for (int people = 2; people <= 8; people++) {
            String last = Texts.town(5, people) + Texts.ringBackwards(people) + "thinks mind=" + people + ";";
            c.due("of " + people, Check.of(last).later(1, 0), 1 << people - 1);
            c.due("of " + people, Check.of(last).later(1, 1), (1 << people) - 1);
            c.due("heard, of " + people, Check.of(last + "hears mind+1=other;").later(1, 1), (1 << people) - 1);
            c.due("the first is not heard, of " + people, Check.of(last + "hears mind>1;").later(1, 1), (1 << people) - 2);
        }
    }

    /** "by numbers ... (of these the first by number counts)". */
    private void firstByNumberCounts() {
        String town = Texts.town(5, 8) + "reminds c d;reminds g d;reminds h d;thinks day=1 and mind>6 or day=2 and mind=8 or day=3 and mind=3;";
        c.due("g of g and h", Check.of(town + "hears other=7;").later(1, 1), 64 + 128 + 8);
        c.due("not h", Check.of(town + "hears other=8;").later(1, 1), 64 + 128);
        c.due("h alone", Check.of(town + "hears other=8;").later(2, 1), 128 + 8);
        c.due("c alone", Check.of(town + "hears other=3;").later(3, 1), 4 + 8);
    }

    /** He who counts is heard or not: the next one by number is not tried, until one ahead of him thinks. */
    private void onlyOneIsAsked() {
        String town = Texts.town(5, 4) + "reminds b d;reminds c d;";
        c.due("b is not heard, c not tried", Check.of(town + "thinks mind=2 or mind=3;hears other=3;").later(1, 1), 6);
        // b is reminded by c in the round in which d did not hear c; in the next round b counts for d
        town = Texts.town(5, 4) + "reminds c a;reminds a d;reminds c d;";
        c.due("a counts from then on", Check.of(town + "thinks mind=3;hears mind=1 or mind=4 and other=1;").later(1, 1), 13);
        town = Texts.town(5, 4) + "reminds d c;reminds c b;reminds d a;reminds b a;";
        c.due("a heard d no more than b", Check.of(town + "thinks mind=4;hears mind>1 or other=2;").later(1, 1), 15);
    }

    /** "each who lives, is not bribed, does not think so far". */
    private void whoCannotBeReminded() {
        ForgottenFeast x = Check.of(Texts.town(5, 4) + "reminds a b;reminds b c;reminds a d;thinks mind=1;");
        c.due("all", x.later(1, 1), 15);
        x.bribe(1, 1);
        c.due("b is bribed", x.later(1, 1), 9);
        x.dies(3);
        c.due("d is dead", x.later(1, 1), 1);
        x.bribe(0, 1);
        c.due("a is bribed", x.later(1, 1), 0);
    }

    /** Within one round he who has just been reminded reminds those behind him. */
    private void whoIsRemindedReminds() {
        String town = Texts.town(5, 3) + "reminds c a;reminds a b;reminds c b;thinks mind=3;";
        c.due("a counts for b in the first round", Check.of(town + "hears mind=1 or other=1;").later(1, 1), 7);
        c.due("c does not", Check.of(town + "hears mind=1 or other=3 and mind=2;").later(1, 1), 5);
    }

    /** Whom one hears is asked anew each DAY. */
    private void hearsOfEachDay() {
        ForgottenFeast x = Check.of(Texts.town(6, 2) + "reminds a b;thinks mind=1;hears day=1 or day=4 or ago>1;");
        int[] due = {3, 1, 1, 3, 1, 1, 3};
        for (int n = 1; n <= 7; n++) {
            c.due("later(" + n + ", 1)", x.later(n, 1), due[n - 1]);
        }
        x.go(3);
        for (int n = 1; n <= 4; n++) {
            c.due("later(" + n + ", 1)", x.later(n, 1), due[n + 2]);
        }
    }

    /** "If this YEAR had no FEAST so far and nobody thinks, it is the FEAST." */
    private void oneFeastAYear() {
        ForgottenFeast x = Check.of(Texts.town(5, 1) + "told a on 1;");
        c.due("DAY 1", x.go(1), 0);
        c.due("DAY 2", x.go(1), 1);
        c.due("DAY 3", x.go(1), 0);
        c.due("FEAST", x.has(5), 2);
        c.due("DAYS 4, 5 and 1", x.go(3), 0);
        c.due("FEAST", x.has(5), 0);
        c.due("DAY 2", x.go(1), 1);
        x = Check.of(Texts.town(5, 1) + "thinks day<5;");
        c.due("the last DAY can be the FEAST", x.go(5), 1);
        c.due("FEAST", x.has(5), 5);
        x = Check.of(Texts.town(5, 1) + "thinks all;");
        c.due("a YEAR can be without one", x.go(5), 0);
        c.due("FEAST", x.has(5), 0);
    }

    /** "Who thinks ... thought of it 0 DAYS ago then; the others one DAY more". */
    private void agoOfWhoThinks() {
        ForgottenFeast x = Check.of(Texts.town(5, 3) + "reminds a b;thinks mind=1;");
        x.go(4);
        c.due("of himself", x.person(0, 2), 0);
        c.due("reminded", x.person(1, 2), 0);
        c.due("neither", x.person(2, 2), 4);
    }

    /** "and behind the FEAST all": the dead and the bribed, too. */
    private void agoBehindTheFeast() {
        ForgottenFeast x = Check.of(Texts.town(6, 3) + "thinks mind=1;");
        x.dies(2);
        x.go(3);
        c.due("ago of b", x.person(1, 2), 3);
        c.due("ago of the dead", x.person(2, 2), 3);
        x.bribe(0, 4);
        c.due("the FEAST", x.go(1), 1);
        for (int p = 0; p < 3; p++) {
            c.due("ago behind it", x.person(p, 2), 0);
        }
        x.bribe(0, 6);
        x.go(2);
        c.due("nobody thought, no FEAST: ago of a", x.person(0, 2), 1);
        c.due("ago of b", x.person(1, 2), 2);
        c.due("ago of the dead", x.person(2, 2), 2);
    }

    /** "(99 at most)". */
    private void ninetyNineAtMost() {
        ForgottenFeast x = Check.of(Texts.town(90, 2) + "thinks mind=1;");
        x.go(98);
        c.due("98 DAYS", x.person(1, 2), 98);
        x.go(1);
        c.due("99 DAYS", x.person(1, 2), 99);
        x.go(1);
        c.due("100 DAYS", x.person(1, 2), 99);
        x.go(200);
        c.due("300 DAYS", x.person(1, 2), 99);
        x = Check.of(Texts.town(90, 2) + "thinks mind=1 or ago>98;");
        c.due("DAY 99", x.later(99, 0), 1);
        c.due("DAY 100", x.later(100, 0), 3);
        x = Check.of(Texts.town(90, 2) + "thinks mind=1 or ago>99;");
        c.due("never above 99", x.later(120, 0), 1);
        x.go(110);
        c.due("never above 99", x.later(120, 0), 1);
    }

    /** "the last 60 are told". */
    private void lastSixtyKept() {
        ForgottenFeast x = Check.of(Texts.town(90, 1) + "thinks all;");
        int[] days = {59, 1, 1, 58, 1};
        int[] rows = {59, 60, 60, 60, 60};
        int[] oldest = {1, 1, 2, 60, 61};
        for (int i = 0; i < days.length; i++) {
            x.go(days[i]);
            c.due("has(9)", x.has(9), rows[i]);
            c.due("the oldest", x.kept(0, 1), oldest[i]);
            c.due("the latest", x.kept(rows[i] - 1, 1), x.has(4));
        }
        for (int k = 0; k < 60; k++) {
            c.due("kept(" + k + ", 1)", x.kept(k, 1), (60 + k) % 90 + 1);
            c.due("kept(" + k + ", 0)", x.kept(k, 0), k < 30 ? 1 : 2);
        }
    }

    /** "KEPT is each DAY: YEAR, DAY, how many thought, 1 if it was the FEAST, else 0": the least and the greatest. */
    private void rowsOfKept() {
        ForgottenFeast x = Check.of(Texts.town(90, 8) + "thinks day>1;");
        Check.on(x, Check.sealed(3, 230, 89, 1, 0, 0, 0, 0, 0, 0, 0, 0, 0, 0, 0, 0, 0, 0, 0, 0, 0, 0, 0, 0, 0, 0));
        x.go(3);
        int[][] due = {{998, 90, 8, 0}, {999, 1, 0, 1}, {999, 2, 8, 0}};
        for (int k = 0; k < 3; k++) {
            for (int what = 0; what < 4; what++) {
                c.due("kept(" + k + ", " + what + ")", x.kept(k, what), due[k][what]);
            }
        }
    }

    /** "NONE when there is none such, or for others". */
    private void keptThatThereAreNot() {
        ForgottenFeast x = Check.of(Texts.town(5, 1) + "thinks all;");
        c.due("nothing is KEPT", x.kept(0, 0), Check.NONE);
        x.go(2);
        c.due("the last one", x.kept(1, 1), 2);
        for (int k : new int[] {-1, 2, 3, 59, 60, 61, Integer.MIN_VALUE, Integer.MAX_VALUE}) {
            busyNone("kept(" + k + ", 0)", x.kept(k, 0));
        }
        for (int what : new int[] {-1, 4, 5, Integer.MIN_VALUE, Integer.MAX_VALUE}) {
            busyNone("kept(0, " + what + ")", x.kept(0, what));
        }
        busy().untold("kept(8, 0)", o -> o.kept(8, 0));
        busy().untold("kept(0, 4)", o -> o.kept(0, 4));
    }

    private void busyNone(String call, long answer) {
        c.due(call, answer, Check.NONE);
    }

    /** "A FAST is a DAY on which just one thought": by himself or reminded counts alike. */
    private void fast() {
        ForgottenFeast x = Check.of(Texts.town(6, 3) + "reminds a b;thinks day=2 and mind=1 or day=3 and mind>1 or day=4 and mind=3;");
        c.due("DAY 1 nobody, DAY 2 two, DAY 3 two, DAY 4 one", x.first(1), 4);
        x.go(3);
        c.due("the next one", x.first(1), 1);
        x.go(1);
        c.due("in the next YEAR", x.first(1), 6);
    }

    /** "The last 20 can be undone." */
    private void lastTwentyUndone() {
        ForgottenFeast x = Check.of(Texts.town(90, 1) + "thinks all;");
        for (int i = 1; i <= 21; i++) {
            x.go(1);
            c.due("has(11)", x.has(11), Math.min(i, 20));
        }
        for (int i = 1; i <= 20; i++) {
            c.due("undo " + i, x.undo(), true);
            c.due("has(4)", x.has(4), 21 - i);
            c.due("has(11)", x.has(11), 20 - i);
        }
        c.due("undo 21", x.undo(), false);
        c.due("has(4)", x.has(4), 1);
        c.due("has(11)", x.has(11), 0);
    }

    /** More than 20 ACTS, again and again, with some undone between: always the latest ones. */
    private void ringOfActs() {
        ForgottenFeast x = Check.of(Texts.town(90, 1) + "thinks all;");
        int acts = 0;
        for (int n : new int[] {19, 20, 21, 25, 47}) {
            for (int i = 0; i < n; i++) {
                x.go(1);
                acts++;
            }
            int back = Math.min(n, 20) / 2;
            for (int i = 0; i < back; i++) {
                x.undo();
                acts--;
            }
            c.due("behind " + acts, (x.has(3) - 1) * 90 + x.has(4), acts);
        }
        int left = x.has(11);
        for (int i = 1; i <= left; i++) {
            c.due("undo", x.undo(), true);
            c.due("behind " + (acts - i), (x.has(3) - 1) * 90 + x.has(4), acts - i);
        }
        c.due("no more", x.undo(), false);
    }

    /** "n DAYS come (1 .. 200)". */
    private void goingOneToTwoHundred() {
        ForgottenFeast x = Check.of(Texts.town(90, 1));
        c.due("go(1)", x.go(1), 1);
        c.due("has(4)", x.has(4), 1);
        c.due("go(200)", x.go(200), 2);
        c.due("has(3)", x.has(3), 3);
        c.due("has(4)", x.has(4), 21);
        c.due("one ACT each", x.has(11), 2);
    }

    /** "when it can't be": as many DAYS as there are, and one more. */
    private void goingToTheEnd() {
        ForgottenFeast x = nearTheEnd(3);
        c.due("go(4)", x.go(4), Check.NONE);
        c.due("go(3)", x.go(3), 0);
        c.due("has(4)", x.has(4), 5);
        c.due("go(1)", x.go(1), Check.NONE);
        c.due("status(2)", x.status(2), 2);
        x.undo();
        c.due("go(1)", x.go(1), 0);
        c.due("go(2)", x.go(2), 0);
    }

    /** "NONE, refused (2), when it can't be, or there is no town." */
    private void goingThatCannotBe() {
        for (int n : new int[] {0, -1, 201, Integer.MIN_VALUE, Integer.MAX_VALUE}) {
            busy().refused("go(" + n + ")", x -> x.go(n), Check.NONE, 2);
        }
        end(3).refused("go(4)", x -> x.go(4), Check.NONE, 2);
        end(0).refused("go(1)", x -> x.go(1), Check.NONE, 2);
        noTown().refused("go(1)", x -> x.go(1), Check.NONE, 2);
    }

    /** "One is told off for a DAY, or not any more: whether he is then (1, 0)": the first and the last of both. */
    private void telling() {
        ForgottenFeast x = Check.of(Texts.town(90, 8) + "told h on 1;");
        c.due("tell(0, 1)", x.tell(0, 1), 1);
        c.due("day(1, 0)", x.day(1, 0), 129);
        c.due("tell(7, 1)", x.tell(7, 1), 0);
        c.due("day(1, 0)", x.day(1, 0), 1);
        c.due("tell(7, 90)", x.tell(7, 90), 1);
        c.due("day(90, 0)", x.day(90, 0), 128);
        c.due("each YEAR", x.later(90, 0), 128);
        c.due("tell(7, 90)", x.tell(7, 90), 0);
        c.due("day(90, 0)", x.day(90, 0), 0);
        c.due("has(6)", x.has(6), 1);
        x.go(95);
        c.due("a DAY that has been", x.tell(3, 4), 1);
        c.due("has(6)", x.has(6), 2);
    }

    /** "NONE, refused (3), when there are none such". */
    private void tellingThatCannotBe() {
        int[][] wrong = {{3, 1}, {4, 1}, {-1, 1}, {0, 0}, {0, 7}, {0, 8}, {0, -1}, {Integer.MAX_VALUE, 1}, {0, Integer.MAX_VALUE},
            {Integer.MIN_VALUE, 1}, {0, Integer.MIN_VALUE}, {8, 1}, {31, 1}, {32, 1}};
        for (int[] w : wrong) {
            busy().refused("tell(" + w[0] + ", " + w[1] + ")", x -> x.tell(w[0], w[1]), Check.NONE, 3);
        }
        noTown().refused("tell(0, 1)", x -> x.tell(0, 1), Check.NONE, 3);
    }

    private static void thirtyToldOff(ForgottenFeast x) {
        Check.town(x, Texts.town(5, 8) + Texts.told(29));
        x.tell(5, 4);
    }

    /** "or 30 are told off". */
    private void thirtyTold() {
        ForgottenFeast x = new ForgottenFeast();
        thirtyToldOff(x);
        c.due("has(6)", x.has(6), 30);
        new Twins(c, EdgesOfDaysTest::thirtyToldOff).refused("tell(6, 4)", o -> o.tell(6, 4), Check.NONE, 3);
        new Twins(c, EdgesOfDaysTest::thirtyToldOff).refused("tell(0, 5)", o -> o.tell(0, 5), Check.NONE, 3);
        c.due("not any more", x.tell(0, 1), 0);
        c.due("has(6)", x.has(6), 29);
        c.due("the 30th", x.tell(0, 5), 1);
        c.due("the 31st", x.tell(0, 1), Check.NONE);
        x = Check.of(Texts.town(5, 8) + Texts.told(30));
        c.due("30 of the text", x.tell(0, 5), Check.NONE);
    }

    /** "One is bribed for a DAY of this YEAR: what he asks". */
    private void bribing() {
        ForgottenFeast x = Check.of(Texts.town(90, 8));
        c.due("bribe(0, 1)", x.bribe(0, 1), 11);
        c.due("bribe(7, 90)", x.bribe(7, 90), 18);
        c.due("day(1, 1)", x.day(1, 1), 1);
        c.due("day(90, 1)", x.day(90, 1), 128);
        c.due("has(7)", x.has(7), 2);
        c.due("has(8)", x.has(8), 29);
        x.go(4);
        c.due("the next DAY", x.bribe(2, 5), 13);
        x = Check.of("days 5;person a mind 1 asks 0;person b mind 1 asks 99;");
        c.due("for nothing", x.bribe(0, 1), 0);
        c.due("has(7)", x.has(7), 1);
        c.due("for 99", x.bribe(1, 1), 99);
    }

    /** "NONE, refused (3), when there are none such, he is bribed for it, it is not to come this YEAR, he is dead". */
    private void bribingThatCannotBe() {
        int[][] wrong = {{3, 4}, {8, 4}, {-1, 4}, {0, 0}, {0, 7}, {0, -1}, {Integer.MAX_VALUE, 4}, {0, Integer.MAX_VALUE},
            {Integer.MIN_VALUE, 4}, {0, Integer.MIN_VALUE}};
        for (int[] w : wrong) {
            busy().refused("bribe(" + w[0] + ", " + w[1] + ")", x -> x.bribe(w[0], w[1]), Check.NONE, 3);
        }
        busy().refused("he is bribed for it", x -> x.bribe(0, 5), Check.NONE, 3);
        busy().refused("it is today", x -> x.bribe(0, 2), Check.NONE, 3);
        busy().refused("it has been", x -> x.bribe(0, 1), Check.NONE, 3);
        new Twins(c, x -> {
            busyLife(x);
            x.dies(1);
        }).refused("he is dead", x -> x.bribe(1, 4), Check.NONE, 3);
        end(0).refused("no DAY to come", x -> x.bribe(0, 5), Check.NONE, 3);
        new Twins(c, x -> {
            Check.town(x, Texts.town(5, 1));
            x.go(5);
        }).refused("the next YEAR's", x -> x.bribe(0, 1), Check.NONE, 3);
        noTown().refused("bribe(0, 1)", x -> x.bribe(0, 1), Check.NONE, 3);
        ForgottenFeast x = new ForgottenFeast();
        busyLife(x);
        c.due("another for the same DAY", x.bribe(1, 5), 12);
        c.due("the same for another DAY", x.bribe(0, 6), 11);
        c.due("the first DAY to come", x.bribe(0, 3), 11);
    }

    private static void thirtyBribes(ForgottenFeast x) {
        Check.town(x, Texts.town(5, 8));
        for (int i = 0; i < 30; i++) {
            x.bribe(i % 8, i / 8 + 1);
        }
    }

    /** "or 30 are bribed". */
    private void thirtyBribed() {
        ForgottenFeast x = new ForgottenFeast();
        thirtyBribes(x);
        c.due("has(7)", x.has(7), 30);
        new Twins(c, EdgesOfDaysTest::thirtyBribes).refused("bribe(6, 4)", o -> o.bribe(6, 4), Check.NONE, 3);
        x.undo();
        c.due("has(7)", x.has(7), 29);
        c.due("the 30th", x.bribe(6, 4), 17);
        c.due("the 31st", x.bribe(5, 4), Check.NONE);
        x.go(1);
        c.due("eight are gone", x.bribe(5, 4), 16);
    }

    private static void coins(ForgottenFeast x, int coins) {
        Check.town(x, "days 5;person a mind 1 asks 1;person b mind 1 asks 2;person c mind 1 asks 0;person d mind 1 asks 99;");
        Check.on(x, Check.sealed(0, 1, 0, 0, coins / 65536, coins / 256 % 256, coins % 256, 0, 0, 0, 0, 0, 0, 0, 0, 0, 0, 0));
    }

    /** "coins paid (999999 at most)". */
    private void coinsAtMost() {
        int[][] due = {{999997, 0, 999998}, {999998, 0, 999999}, {999998, 1, 999999}, {999999, 0, 999999}, {999999, 2, 999999},
            {999900, 3, 999999}, {999901, 3, 999999}, {999899, 3, 999998}, {65535, 0, 65536}, {255, 0, 256}};
        for (int[] d : due) {
            ForgottenFeast x = new ForgottenFeast();
            coins(x, d[0]);
            c.due("has(8)", x.has(8), d[0]);
            c.due("what he asks", x.bribe(d[1], 2), x.person(d[1], 1));
            c.due("has(8)", x.has(8), d[2]);
            x.undo();
            c.due("has(8), undone", x.has(8), d[0]);
        }
    }

    /** "One dies: true": the first, the last, all. */
    private void dying() {
        ForgottenFeast x = Check.of(Texts.town(5, 8) + "thinks all;");
        int living = 8;
        for (int p : new int[] {7, 0, 3, 1, 2, 4, 5, 6}) {
            c.due("dies(" + p + ")", x.dies(p), true);
            living--;
            c.due("person(" + p + ", 3)", x.person(p, 3), 1);
            c.due("has(2)", x.has(2), living);
            c.due("has(1)", x.has(1), 8);
        }
        c.due("nobody lives", x.go(1), 1);
        c.due("has(11)", x.has(11), 9);
    }

    /** "false, refused (3), when there is none such who lives". */
    private void dyingThatCannotBe() {
        for (int p : new int[] {3, 4, 7, 8, -1, 31, 32, Integer.MIN_VALUE, Integer.MAX_VALUE}) {
            busy().refused("dies(" + p + ")", x -> x.dies(p) ? 1 : 0, 0, 3);
        }
        new Twins(c, x -> {
            busyLife(x);
            x.dies(2);
        }).refused("he is dead", x -> x.dies(2) ? 1 : 0, 0, 3);
        noTown().refused("dies(0)", x -> x.dies(0) ? 1 : 0, 0, 3);
    }

    private static long next(long x) {
        return (1103515245L * x + 12345L) % (1L << 31);
    }

    /** "x (the seed) becomes (1103515245 x + 12345) mod 2 to the 31; floor(x / 64) mod m": of the least and greatest seeds, too. */
    private void drawing() {
        for (int seed : new int[] {0, 1, 2, 64, 12345, 1 << 30, Integer.MAX_VALUE - 1, Integer.MAX_VALUE}) {
            long x = seed;
            for (int i = 0; i < 5; i++) {
                x = next(x);
                int draw = (int) (x / 64 % 1000);
                for (int mortal : new int[] {draw, Math.min(1000, draw + 1)}) {
                    ForgottenFeast f = Check.of(Texts.town(5, 1) + "mortal 0;");
                    f.seed(seed);
                    if (i > 0) {
                        f.chance(i);
                    }
                    Check.town(f, Texts.town(5, 1) + "mortal " + mortal + ";");
                    c.due("seed " + seed + ", DRAW " + i + ", mortal " + mortal, f.chance(1), draw < mortal ? 1 : 0);
                }
            }
        }
    }

    /** "ahead of each, for each who lives": by numbers, and not for the dead. */
    private void drawsForWhoLives() {
        long one = next(9);
        long two = next(one);
        int first = (int) (one / 64 % 1000);
        int second = (int) (two / 64 % 1000);
        int mortal = Math.min(first, second) + 1;
        int who = first < second ? 0 : 1;
        ForgottenFeast x = Check.of(Texts.town(5, 2) + "thinks all;mortal " + mortal + ";");
        x.seed(9);
        c.due("one dies", x.chance(1), 1);
        c.due("by numbers", x.person(who, 3), 1);
        c.due("ahead of the DAY", x.kept(0, 2), 1);
        x = Check.of(Texts.town(5, 3) + "thinks all;mortal " + mortal + ";");
        x.dies(0);
        x.seed(9);
        c.due("no DRAW for the dead", x.chance(1) >= 1, true);
        c.due("the first DRAW is b's", x.person(1, 3), first < mortal ? 1 : 0);
        c.due("the second one is c's", x.person(2, 3), second < mortal ? 1 : 0);
        x = Check.of(Texts.town(5, 1) + "mortal 1000;");
        x.seed(9);
        c.due("dead on the first DAY", x.chance(1), 1);
        c.due("no DRAW from then on", x.chance(100), 0);
        Check.town(x, Texts.town(5, 1) + "mortal " + second + ";");
        c.due("the second DRAW", x.chance(1), 0);
        Check.town(x, Texts.town(5, 1) + "mortal 1000;");
        x.seed(9);
        x.chance(1);
        Check.town(x, Texts.town(5, 1) + "mortal " + (second + 1) + ";");
        c.due("the second DRAW", x.chance(1), 1);
    }

    /** "below mortal he dies": mortal 0 nobody, mortal 1000 all. */
    private void belowMortal() {
        ForgottenFeast x = Check.of(Texts.town(90, 8) + "mortal 0;");
        c.due("mortal 0", x.chance(100), 0);
        x = Check.of(Texts.town(90, 8) + "mortal 1000;thinks all;");
        c.due("mortal 1000", x.chance(1), 8);
        c.due("nobody was left to think", x.kept(0, 3), 1);
    }

    /** "n DAYS by the seed (1 .. 100)". */
    private void chanceOneToHundred() {
        ForgottenFeast x = Check.of(Texts.town(90, 1) + "thinks all;");
        c.due("chance(1)", x.chance(1), 0);
        c.due("has(4)", x.has(4), 1);
        c.due("chance(100)", x.chance(100), 0);
        c.due("has(3)", x.has(3), 2);
        c.due("has(4)", x.has(4), 11);
    }

    /** "when it can't be": as many DAYS as there are, and one more. */
    private void chanceToTheEnd() {
        ForgottenFeast x = nearTheEnd(3);
        c.due("chance(4)", x.chance(4), Check.NONE);
        c.due("chance(3)", x.chance(3), 0);
        c.due("has(4)", x.has(4), 5);
        c.due("chance(1)", x.chance(1), Check.NONE);
        c.due("status(2)", x.status(2), 2);
    }

    /** "NONE, refused (2), when it can't be, or there is no town": the seed stays, too. */
    private void chanceThatCannotBe() {
        for (int n : new int[] {0, -1, 101, 200, Integer.MIN_VALUE, Integer.MAX_VALUE}) {
            busy().refused("chance(" + n + ")", x -> x.chance(n), Check.NONE, 2);
        }
        end(3).refused("chance(4)", x -> x.chance(4), Check.NONE, 2);
        end(0).refused("chance(1)", x -> x.chance(1), Check.NONE, 2);
        noTown().refused("chance(1)", x -> x.chance(1), Check.NONE, 2);
    }

    /** "one ACT: how many died". */
    private void chanceIsOneAct() {
        ForgottenFeast x = Check.of(Texts.town(90, 8) + "mortal 500;");
        x.dies(3);
        c.due("those who had died do not count", x.chance(90), 7);
        c.due("has(11)", x.has(11), 2);
        c.due("undo()", x.undo(), true);
        c.due("has(2)", x.has(2), 7);
        c.due("has(4)", x.has(4), 0);
        c.due("has(9)", x.has(9), 0);
    }

    /** "The latest ACT is undone": each kind, and what goes with it. */
    private void undoingAll() {
        ForgottenFeast x = Check.of(Texts.town(5, 2) + "told a on 1;thinks told=1;");
        x.go(2);
        c.due("undo()", x.undo(), true);
        c.due("the FEAST", x.has(5), 0);
        c.due("KEPT", x.has(9), 0);
        c.due("ago", x.person(1, 2), 0);
        x.tell(0, 1);
        c.due("undo()", x.undo(), true);
        c.due("told off again", x.day(1, 0), 1);
        x.tell(1, 5);
        c.due("undo()", x.undo(), true);
        c.due("not told off any more", x.day(5, 0), 0);
        x.bribe(1, 5);
        c.due("undo()", x.undo(), true);
        c.due("bribes", x.has(7), 0);
        c.due("coins", x.has(8), 0);
        x.dies(1);
        c.due("undo()", x.undo(), true);
        c.due("he lives", x.has(2), 2);
        x.bribe(1, 2);
        x.go(3);
        c.due("undo()", x.undo(), true);
        c.due("the bribe is back", x.day(2, 1), 2);
        c.due("has(11)", x.has(11), 1);
    }

    /** "false, refused (4), when none can be". */
    private void undoingNone() {
        noTown().refused("undo()", x -> x.undo() ? 1 : 0, 0, 4);
        new Twins(c, x -> Check.town(x, Texts.town(5, 2) + "thinks all;"))
            .refused("undo() at first", x -> x.undo() ? 1 : 0, 0, 4);
        new Twins(c, x -> {
            busyLife(x);
            while (x.has(11) > 0) {
                x.undo();
            }
        }).refused("undo() when all is undone", x -> x.undo() ? 1 : 0, 0, 4);
        new Twins(c, x -> {
            busyLife(x);
            Check.town(x, Texts.town(5, 2));
        }).refused("undo() behind town()", x -> x.undo() ? 1 : 0, 0, 4);
        new Twins(c, x -> {
            busyLife(x);
            Check.on(x, Check.image(x));
        }).refused("undo() behind on()", x -> x.undo() ? 1 : 0, 0, 4);
        new Twins(c, x -> {
            Check.town(x, Texts.town(5, 2));
            x.go(0);
            x.chance(0);
            x.tell(0, 0);
            x.bribe(0, 0);
            x.dies(2);
            x.seed(3);
        }).refused("undo() behind what was refused, and a seed", x -> x.undo() ? 1 : 0, 0, 4);
    }

    /** "(the seed stays)": as the DRAWS of what is undone left it. */
    private void theSeedStays() {
        ForgottenFeast x = Check.of(Texts.town(90, 8) + "mortal 200;");
        x.seed(77);
        x.chance(2);
        int living = x.has(2);
        x.undo();
        long seed = 77;
        int[] dead = new int[8];
        int died = 0;
        for (int d = 0; d < 3; d++) {
            for (int p = 0; p < 8; p++) {
                if (dead[p] == 0) {
                    seed = next(seed);
                    dead[p] = seed / 64 % 1000 < 200 ? 1 : 0;
                    died += dead[p];
                }
            }
            if (d == 1) {
                c.due("two DAYS", 8 - living, died);
                dead = new int[8];
                died = 0;
            }
        }
        c.due("the third", x.chance(1), died);
        for (int p = 0; p < 8; p++) {
            c.due("person(" + p + ", 3)", x.person(p, 3), dead[p]);
        }
    }

    /** "The seed: true": from 0 on. */
    private void seedFromZero() {
        ForgottenFeast x = new ForgottenFeast();
        c.due("seed(0)", x.seed(0), true);
        c.due("seed(1)", x.seed(1), true);
        c.due("seed(MAX)", x.seed(Integer.MAX_VALUE), true);
        c.due("status(5)", x.status(5), 0);
    }

    /** "false, refused (5), when it is below 0". */
    private void seedBelowZero() {
        busy().refused("seed(-1)", x -> x.seed(-1) ? 1 : 0, 0, 5);
        busy().refused("seed(MIN)", x -> x.seed(Integer.MIN_VALUE) ? 1 : 0, 0, 5);
        noTown().refused("seed(-1)", x -> x.seed(-1) ? 1 : 0, 0, 5);
    }

    /** "(It is 1 at first.)" */
    private void seedIsOneAtFirst() {
        int draw = (int) (next(1) / 64 % 1000);
        c.due("as low as mortal", Check.of(Texts.town(5, 1) + "mortal " + draw + ";").chance(1), 0);
        c.due("below mortal", Check.of(Texts.town(5, 1) + "mortal " + (draw + 1) + ";").chance(1), 1);
    }
}
