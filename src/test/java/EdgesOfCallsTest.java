/** Promises 1 to 9 and 35: each boundary case of the tape, of towns as they are told, of what there is, and of status. */
public final class EdgesOfCallsTest {
    private static final int[] NEVER = {Integer.MIN_VALUE, -1000000, -2, -1, 1000000, Integer.MAX_VALUE};

    private final Check c;

    private EdgesOfCallsTest(Check c) {
        this.c = c;
    }

    public static void main(String[] args) {
        Check c = new Check("EdgesOfCallsTest");
        EdgesOfCallsTest t = new EdgesOfCallsTest(c);
        t.noTownNobody();
        t.twentyBytes();
        t.highestFirst();
        t.sixteenHundred();
        t.feedingThatCannotBe();
        t.ending();
        t.endingThatCannotBe();
        t.theTapeGoes();
        t.townThatCannotBe();
        t.townWithoutAStatement();
        t.allAsAtFirst();
        t.whatATownLeaves();
        t.faultAheadOfAny();
        t.faultOfTheLatest();
        t.faultForOthers();
        t.hasOfEach();
        t.hasForOthers();
        t.letters();
        t.lettersThatThereAreNot();
        t.personOfEach();
        t.personsThatThereAreNot();
        t.dayOfEach();
        t.daysThatThereAreNot();
        t.statusOfEach();
        t.statusForOthers();
        c.close();
    }

    private static void life(ForgottenFeast x) {
        Check.town(x, Texts.town(6, 3) + "reminds a b;reminds b c;told a on 2;told c on 5;mortal 100;");
        x.go(7);
        x.bribe(0, 5);
        x.tell(1, 3);
        Check.see(x, 1, 1);
        x.image();
        x.undo();
        Check.ask(x, "first", 1);
    }

    private Twins busy() {
        return new Twins(c, EdgesOfCallsTest::life);
    }

    private void none(String call, long answer) {
        c.due(call, answer, Check.NONE);
    }

    /** "No town, nobody." */
    private void noTownNobody() {
        ForgottenFeast x = new ForgottenFeast();
        int[] has = {0, 0, 0, 1, 0, 0, 0, 0, 0, 0, 0, 0};
        for (int what = 0; what < 12; what++) {
            c.due("has(" + what + ")", x.has(what), has[what]);
        }
        none("letter(0, 0)", x.letter(0, 0));
        for (int what = 0; what < 7; what++) {
            none("person(0, " + what + ")", x.person(0, what));
        }
        for (int d = 0; d < 3; d++) {
            for (int what = 0; what < 3; what++) {
                none("day(" + d + ", " + what + ")", x.day(d, what));
            }
        }
        none("kept(0, 0)", x.kept(0, 0));
        none("octet(0)", x.octet(0));
        c.due("the tape is empty", x.feed(0, 0, 0, 0, 0), 20);
        for (int what = 0; what < 6; what++) {
            c.due("status(" + what + ")", x.status(what), 0);
        }
    }

    /** "Twenty bytes come behind those on the tape ...: how many there are". */
    private void twentyBytes() {
        ForgottenFeast x = new ForgottenFeast();
        c.due("feed()", x.feed(0, 0, 0, 0, 0), 20);
        c.due("feed()", x.feed(-1, -1, -1, -1, -1), 40);
        c.due("end(1)", x.end(1), true);
        c.due("feed()", x.feed(0, 0, 0, 0, 0), 21);
        c.due("end(0)", x.end(0), true);
        c.due("feed()", x.feed(0, 0, 0, 0, 0), 20);
        // behind, not ahead
        Check.put(x, "days ");
        x.feed(0x353b2020, 0x20202020, 0x20202020, 0x20202020, 0x20202020);
        c.due("town()", x.town(), 1);
    }

    /** "of each number the highest first": each of the twenty where it belongs, up to 255. */
    private void highestFirst() {
        for (int k = 0; k < 20; k++) {
            for (int b : new int[] {'#', 127, 128, 255}) {
                ForgottenFeast x = new ForgottenFeast();
                int[] n = {0x20202020, 0x20202020, 0x20202020, 0x20202020, 0x20202020};
                n[k / 4] ^= (b ^ 32) << 24 - 8 * (k % 4);
                x.feed(n[0], n[1], n[2], n[3], n[4]);
                none("town()", x.town());
                c.due("the place of " + b, x.fault(1), k);
            }
        }
        ForgottenFeast x = Check.of(Texts.town(5, 1));
        x.feed(0x00000000, 0, 0, 0, 0);
        x.end(1);
        none("see() of a byte", x.see());
        c.due("see() of 0, 1", Check.see(x, 0, 1), 1);
    }

    /** "NONE, refused (0), if there would be more than 1600". */
    private void sixteenHundred() {
        ForgottenFeast x = new ForgottenFeast();
        for (int i = 1; i <= 80; i++) {
            c.due("feed()", x.feed(0x20202020, 0x20202020, 0x20202020, 0x20202020, 0x20202020), 20 * i);
        }
        none("the 81st", x.feed(0, 0, 0, 0, 0));
        c.due("end(1581)", x.end(1581), true);
        none("to 1601", x.feed(0, 0, 0, 0, 0));
        c.due("end(1581), still there", x.end(1581), true);
        c.due("end(1582), there is no more", x.end(1582), false);
        c.due("end(1580)", x.end(1580), true);
        c.due("to 1600", x.feed(0x20202020, 0x20202020, 0x20202020, 0x20202020, 0x20202020), 1600);
        c.due("status(0)", x.status(0), 3);
        none("a text of 1600 blanks", x.town());
        c.due("its place", x.fault(1), 1600);
        String text = "days 5;";
        c.due("a text of 1600 bytes", Check.town(x, " ".repeat(1600 - text.length()) + text), 1);
        c.due("its last byte counts", Check.town(x, text + " ".repeat(1599 - text.length()) + "#"), Check.NONE);
        c.due("its place", x.fault(1), 1599);
    }

    /** A refused feed() leaves the tape as it was. */
    private void feedingThatCannotBe() {
        new Twins(c, EdgesOfCallsTest::life).refused("feed() beyond 1600", x -> {
            int length = x.feed(0, 0, 0, 0, 0);
            int before = length - 20;
            while (length + 20 <= 1600) {
                length = x.feed(0, 0, 0, 0, 0);
            }
            int answer = x.feed(0x61616161, 0, 0, 0, 0);
            x.end(before);
            return answer;
        }, Check.NONE, 0);
    }

    /** "The tape has its first n bytes alone: true": none, all, any between. */
    private void ending() {
        ForgottenFeast x = new ForgottenFeast();
        c.due("end(0) of nothing", x.end(0), true);
        Check.put(x, "days 5;#");
        c.due("end(8), all", x.end(8), true);
        c.due("end(7)", x.end(7), true);
        c.due("end(7) again", x.end(7), true);
        c.due("end(8), it is gone", x.end(8), false);
        c.due("town()", x.town(), 1);
        Check.put(x, "days 5;#");
        c.due("end(0)", x.end(0), true);
        none("town()", x.town());
        c.due("its place", x.fault(1), 0);
        c.due("status(0)", x.status(0), 1);
    }

    /** "false, refused (0), if it has not so many, or n is below 0". */
    private void endingThatCannotBe() {
        for (int n : new int[] {-1, 31, 32, 50, 1600, 1601, Integer.MIN_VALUE, Integer.MAX_VALUE}) {
            busy().refused("end(" + n + ")", x -> x.end(n) ? 1 : 0, 0, 0);
        }
        new Twins(c, EdgesOfCallsTest::life).refusedTape("end(1) of nothing", new byte[0], x -> x.end(1) ? 1 : 0, 0, 0);
    }

    /** "(it goes)": of each call that reads it, whether it can be or not. */
    private void theTapeGoes() {
        String[] texts = {"days 5;", "x", "", "total 1", "x"};
        for (int call = 0; call < 4; call++) {
            for (String text : texts) {
                ForgottenFeast x = Check.of(Texts.town(5, 1));
                Check.put(x, text);
                long answer = call == 0 ? x.town() : call == 1 ? x.see() : call == 2 ? x.ask(1) : x.on() ? 1 : 0;
                c.due("call " + call + " of <" + text + "> answered " + answer + ", then feed()", x.feed(0, 0, 0, 0, 0), 20);
            }
        }
    }

    /** "NONE, refused (1), with a FAULT (all stays". */
    private void townThatCannotBe() {
        String[] texts = {"days 4;", "days 5;person on", "days 5;person a mind 1 asks 1;told b on 1;", "days 5;thinks[[[[[[[all",
            "days 5;thinks all;thinks all;", "days 90;person a mind 9 asks 9;told a on 1;frost 1 for 30;slips 100;mortal 1000;thinks all;x"};
        for (String text : texts) {
            new Twins(c, EdgesOfCallsTest::life).refusedText("town() of <" + text + ">", text, x -> x.town(), Check.NONE, 1);
        }
        new Twins(c, x -> x.seed(3)).refusedText("town() without a town", "days 5;x", x -> x.town(), Check.NONE, 1);
    }

    /** "one without a STATEMENT has FAULT 1 at its length". */
    private void townWithoutAStatement() {
        for (String text : new String[] {"", " ", "\n", " \n ", " ".repeat(1600)}) {
            new Twins(c, EdgesOfCallsTest::life).refusedText("town() of " + text.length() + " blanks", text, x -> x.town(), Check.NONE, 1);
            c.fault(new ForgottenFeast(), text, 1, text.length());
        }
    }

    /** "Without one all is as at first, nothing is KEPT, SEEN or can be undone". */
    private void allAsAtFirst() {
        ForgottenFeast x = new ForgottenFeast();
        life(x);
        x.dies(0);
        x.go(30);
        String town = Texts.town(6, 3) + "told b on 3;";
        c.due("town()", Check.town(x, town), 5);
        int[] has = {6, 3, 3, 1, 0, 0, 1, 0, 0, 0, 0, 0};
        for (int what = 0; what < 12; what++) {
            c.due("has(" + what + ")", x.has(what), has[what]);
        }
        for (int p = 0; p < 3; p++) {
            c.due("ago", x.person(p, 2), 0);
            c.due("dead", x.person(p, 3), 0);
            c.due("whom he reminds", x.person(p, 4), 0);
            c.due("who remind him", x.person(p, 5), 0);
        }
        for (int d = 1; d <= 6; d++) {
            c.due("told off on " + d, x.day(d, 0), d == 3 ? 2 : 0);
            c.due("bribed on " + d, x.day(d, 1), 0);
        }
        none("kept(0, 0)", x.kept(0, 0));
        none("law(0)", x.law(0));
        c.due("thought(0)", x.thought(0), 8);
        c.due("undo()", x.undo(), false);
        c.due("the same text again", Check.town(x, town), 5);
        c.due("fault(0)", x.fault(0), 0);
    }

    /** "the seed stays"; what was refused stays counted, and the latest image stays. */
    private void whatATownLeaves() {
        ForgottenFeast x = Check.of(Texts.town(5, 8) + "mortal 500;");
        ForgottenFeast y = Check.of(Texts.town(5, 8) + "mortal 500;");
        x.seed(1234);
        y.seed(1234);
        Check.town(x, Texts.town(5, 8) + "mortal 500;");
        c.due("the seed as it was set", x.chance(1), y.chance(1));
        c.due("who lives", x.has(2), y.has(2));
        Check.town(x, Texts.town(5, 8) + "mortal 500;");
        Check.town(y, "days");
        x.chance(1);
        y.undo();
        y.chance(1);
        c.due("the seed as the DRAWS left it", x.has(2), y.has(2));
        x.undo();
        x.undo();
        x.go(0);
        c.due("status(4)", x.status(4), 1);
        x.image();
        Check.town(x, "days 5;");
        c.due("status(4)", x.status(4), 1);
        c.due("status(2)", x.status(2), 1);
        c.due("octet(24)", x.octet(24) != Check.NONE, true);
    }

    /** "(what 0; 0 without, and ahead of any), its place (1; NONE without)". */
    private void faultAheadOfAny() {
        ForgottenFeast x = new ForgottenFeast();
        c.due("fault(0)", x.fault(0), 0);
        none("fault(1)", x.fault(1));
        Check.see(x, 0, 0);
        Check.on(x, 0, 0);
        Check.ask(x, "foo", 1);
        c.due("no town(), no ask() that could be: fault(0)", x.fault(0), 0);
        none("fault(1)", x.fault(1));
        Check.town(x, "days 5;");
        c.due("without: fault(0)", x.fault(0), 0);
        none("fault(1)", x.fault(1));
    }

    /** "Of the latest town() or ask()". */
    private void faultOfTheLatest() {
        ForgottenFeast x = Check.of("days 5;");
        Check.ask(x, "total foo", 1);
        c.due("ask(): fault(0)", x.fault(0), 1);
        c.due("fault(1)", x.fault(1), 6);
        Check.see(x, 9, 9);
        Check.on(x, 9, 9);
        x.go(1);
        x.undo();
        c.due("no other call: fault(1)", x.fault(1), 6);
        Check.town(x, "days 99;");
        c.due("town(): fault(0)", x.fault(0), 2);
        c.due("fault(1)", x.fault(1), 5);
        Check.ask(x, "often all", 1);
        c.due("ask() without: fault(0)", x.fault(0), 0);
        none("fault(1)", x.fault(1));
        Check.town(x, "days 5;thinks[[[[[[[all");
        c.due("fault(0)", x.fault(0), 4);
        Check.town(x, "days 5;person a mind 1 asks 1;");
        c.due("town() without: fault(0)", x.fault(0), 0);
        none("fault(1)", x.fault(1));
        Check.town(x, "days 5;told a");
        c.due("fault(0)", x.fault(0), 3);
        Check.town(x, "days 5;hears all;hears");
        c.due("fault(0)", x.fault(0), 5);
    }

    /** "NONE for another what." */
    private void faultForOthers() {
        ForgottenFeast x = new ForgottenFeast();
        Check.town(x, "x");
        for (int what : new int[] {-1, 2, 3, Integer.MIN_VALUE, Integer.MAX_VALUE}) {
            none("fault(" + what + ")", x.fault(what));
        }
        busy().untold("fault(2)", y -> y.fault(2));
    }

    /** Each row of has(), and that it counts its own things alone. */
    private void hasOfEach() {
        ForgottenFeast x = Check.of(Texts.town(6, 4) + "told a on 1;told b on 1;");
        int[] has = {6, 4, 4, 1, 0, 0, 2, 0, 0, 0, 0, 0};
        all("at first", x, has);
        x.tell(2, 2);
        has[6]++;
        has[11]++;
        all("tell()", x, has);
        x.bribe(3, 5);
        has[7]++;
        has[8] += 14;
        has[11]++;
        all("bribe()", x, has);
        x.dies(0);
        has[2]--;
        has[11]++;
        all("dies()", x, has);
        Check.see(x, 1, 1, 2, 0);
        has[10] = 2;
        all("see()", x, has);
        x.go(3);
        has[4] = 3;
        has[5] = 3;
        has[9] = 3;
        has[11]++;
        all("go(3)", x, has);
        x.go(3);
        has[4] = 6;
        has[7] = 0;
        has[9] = 6;
        has[11]++;
        all("go(3)", x, has);
        x.chance(1);
        has[3] = 2;
        has[4] = 1;
        has[5] = 0;
        has[9] = 7;
        has[11]++;
        all("chance(1)", x, has);
    }

    private void all(String when, ForgottenFeast x, int[] has) {
        for (int what = 0; what < 12; what++) {
            c.due(when + ": has(" + what + ")", x.has(what), has[what]);
        }
    }

    /** "NONE for others." */
    private void hasForOthers() {
        ForgottenFeast x = Check.of(Texts.town(6, 4));
        none("has(12)", x.has(12));
        none("has(13)", x.has(13));
        for (int what : NEVER) {
            none("has(" + what + ")", x.has(what));
        }
        busy().untold("has(12)", y -> y.has(12));
    }

    /** "Letter k (0 .. 5) of the NAME of one of the PEOPLE: 1 .. 26; 0 behind it". */
    private void letters() {
        StringBuilder town = new StringBuilder("days 5;");
        String[] names = {"a", "zz", "abc", "wxyz", "mnopq", "azazaz", "first", "total"};
        for (String name : names) {
            town.append("person ").append(name).append(" mind 1 asks 1;");
        }
        ForgottenFeast x = Check.of(town.toString());
        for (int p = 0; p < 8; p++) {
            for (int k = 0; k < 6; k++) {
                c.due("letter(" + p + ", " + k + ")", x.letter(p, k), k < names[p].length() ? names[p].charAt(k) - 'a' + 1 : 0);
            }
        }
    }

    /** "NONE when there is none such." */
    private void lettersThatThereAreNot() {
        ForgottenFeast x = Check.of("days 5;person abcdef mind 1 asks 1;person g mind 1 asks 1;");
        for (int k : new int[] {-1, 6, 7, Integer.MIN_VALUE, Integer.MAX_VALUE}) {
            none("letter(0, " + k + ")", x.letter(0, k));
            none("letter(1, " + k + ")", x.letter(1, k));
        }
        for (int p : new int[] {-1, 2, 3, 7, 8, 9, Integer.MIN_VALUE, Integer.MAX_VALUE}) {
            none("letter(" + p + ", 0)", x.letter(p, 0));
        }
        busy().untold("letter(3, 0)", y -> y.letter(3, 0));
        busy().untold("letter(0, 6)", y -> y.letter(0, 6));
        x.dies(1);
        c.due("of one who is dead", x.letter(1, 0), 7);
    }

    /** Each row of person(), of the first and the last of eight. */
    private void personOfEach() {
        ForgottenFeast x = Check.of(Texts.town(5, 8) + Texts.ringBackwards(8) + "told h on 1;told h on 5;told a on 5;reminds h a;");
        int[][] due = {{1, 11, 0, 0, 128, 130, 1}, {8, 18, 0, 0, 65, 1, 2}};
        for (int i = 0; i < 2; i++) {
            for (int what = 0; what < 7; what++) {
                c.due("person(" + 7 * i + ", " + what + ")", x.person(7 * i, what), due[i][what]);
            }
        }
        x.dies(7);
        c.due("whether dead", x.person(7, 3), 1);
        c.due("whether another is dead", x.person(6, 3), 0);
        c.due("he is still reminded", x.person(7, 5), 1);
        x = Check.of(Texts.town(90, 1));
        for (int d = 0; d < 30; d++) {
            c.due("for how many DAYS", x.person(0, 6), d);
            x.tell(0, 90 - d);
        }
        c.due("30", x.person(0, 6), 30);
        x = Check.of(Texts.town(90, 2) + "told b on 90;told b on 1;");
        c.due("nobody else's DAYS", x.person(0, 6), 0);
        c.due("the first and the last", x.person(1, 6), 2);
    }

    /** "NONE when there is none such, or for others." */
    private void personsThatThereAreNot() {
        ForgottenFeast x = Check.of(Texts.town(5, 3));
        for (int what = 0; what < 7; what++) {
            for (int p : new int[] {-1, 3, 4, 7, 8, Integer.MIN_VALUE, Integer.MAX_VALUE}) {
                none("person(" + p + ", " + what + ")", x.person(p, what));
            }
        }
        for (int what : new int[] {-1, 7, 8, Integer.MIN_VALUE, Integer.MAX_VALUE}) {
            none("person(0, " + what + ")", x.person(0, what));
        }
        none("person(8, 0) of eight", Check.of(Texts.town(5, 8)).person(8, 0));
        none("person(0, 0) of none", Check.of("days 5;").person(0, 0));
        busy().untold("person(3, 0)", y -> y.person(3, 0));
        busy().untold("person(0, 7)", y -> y.person(0, 7));
    }

    /** "For a DAY of the YEAR: who are told off (what 0), bribed (1), as bits, whether there is FROST (2)". */
    private void dayOfEach() {
        ForgottenFeast x = Check.of(Texts.town(90, 8) + "frost 1 for 1;frost 90 for 1;");
        for (int p = 0; p < 8; p++) {
            x.tell(p, 90);
            x.bribe(p, 1);
        }
        int[][] due = {{0, 255, 1}, {0, 0, 0}, {255, 0, 1}};
        int[] days = {1, 2, 90};
        for (int i = 0; i < 3; i++) {
            for (int what = 0; what < 3; what++) {
                c.due("day(" + days[i] + ", " + what + ")", x.day(days[i], what), due[i][what]);
            }
        }
        x.dies(0);
        c.due("who is dead stays told off", x.day(90, 0), 255);
        c.due("and bribed", x.day(1, 1), 255);
    }

    /** "NONE when there is none such, or for others." */
    private void daysThatThereAreNot() {
        for (int days : new int[] {5, 89, 90}) {
            ForgottenFeast x = Check.of(Texts.town(days, 1));
            for (int what = 0; what < 3; what++) {
                c.due("day(1, " + what + ")", x.day(1, what), 0);
                c.due("day(" + days + ", " + what + ")", x.day(days, what), 0);
                for (int d : new int[] {0, -1, days + 1, days + 2, 91, 127, 128, Integer.MIN_VALUE, Integer.MAX_VALUE}) {
                    none("day(" + d + ", " + what + ")", x.day(d, what));
                }
            }
            for (int what : new int[] {-1, 3, 4, Integer.MIN_VALUE, Integer.MAX_VALUE}) {
                none("day(1, " + what + ")", x.day(1, what));
            }
        }
        busy().untold("day(7, 0)", y -> y.day(7, 0));
        busy().untold("day(1, 3)", y -> y.day(1, 3));
    }

    /** Each refused call counts in its row, and in no other; what is not refused counts in none. */
    private void statusOfEach() {
        ForgottenFeast x = Check.of(Texts.town(5, 2));
        int[] due = new int[6];
        x.end(1);
        due[0]++;
        rows("end()", x, due);
        for (int i = 0; i < 81; i++) {
            x.feed(0, 0, 0, 0, 0);
        }
        due[0]++;
        rows("feed()", x, due);
        x.town();
        due[1]++;
        rows("town()", x, due);
        x.see();
        due[1]++;
        rows("see()", x, due);
        x.go(0);
        due[2]++;
        rows("go()", x, due);
        x.chance(0);
        due[2]++;
        rows("chance()", x, due);
        x.tell(0, 0);
        due[3]++;
        rows("tell()", x, due);
        x.bribe(0, 0);
        due[3]++;
        rows("bribe()", x, due);
        x.dies(2);
        due[3]++;
        rows("dies()", x, due);
        x.undo();
        due[4]++;
        rows("undo()", x, due);
        x.seed(-1);
        due[5]++;
        rows("seed()", x, due);
        x.on();
        due[5]++;
        rows("on()", x, due);
        x.ask(1);
        x.ask(0);
        x.fault(9);
        x.octet(-1);
        x.later(0, 0);
        x.enough(5);
        x.turnsOf(3);
        x.hours(0);
        x.law(0);
        rows("what only has nothing to tell", x, due);
        Check.town(x, Texts.town(5, 2));
        x.go(1);
        x.chance(1);
        x.tell(0, 1);
        x.bribe(0, 3);
        x.dies(0);
        x.undo();
        x.seed(0);
        Check.see(x, 0, 1);
        Check.on(x, Check.image(x));
        rows("what is not refused", x, due);
    }

    private void rows(String when, ForgottenFeast x, int[] due) {
        for (int what = 0; what < 6; what++) {
            c.due(when + ": status(" + what + ")", x.status(what), due[what]);
        }
    }

    /** "NONE for others." */
    private void statusForOthers() {
        ForgottenFeast x = new ForgottenFeast();
        for (int what : new int[] {-1, 6, 7, 8, Integer.MIN_VALUE, Integer.MAX_VALUE}) {
            none("status(" + what + ")", x.status(what));
        }
        busy().untold("status(6)", y -> y.status(6));
        c.due("NONE", ForgottenFeast.NONE, -1);
        c.due("NOTHING", ForgottenFeast.NOTHING, -1000000000000000L);
    }
}
