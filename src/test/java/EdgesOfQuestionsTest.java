import java.nio.charset.StandardCharsets;

/** Terms IV, promises 31 to 34: each boundary case of questions and images on its own. */
public final class EdgesOfQuestionsTest {
    private static final String RINGS = Texts.town(6, 8) + Texts.ringBackwards(8);

    private final Check c;

    private EdgesOfQuestionsTest(Check c) {
        this.c = c;
    }

    public static void main(String[] args) {
        Check c = new Check("EdgesOfQuestionsTest");
        EdgesOfQuestionsTest t = new EdgesOfQuestionsTest(c);
        t.oneToHundredAndTwenty();
        t.firstAndLast();
        t.often();
        t.total();
        t.mostAndLeast();
        t.withoutPeople();
        t.numbers();
        t.deadOrNot();
        t.toldOfTheDay();
        t.agoBehindTheDay();
        t.thinksOnTheDay();
        t.feastOfTheDay();
        t.dayAhead();
        t.knowsEachOther();
        t.knowsNumbersThatThereAreNot();
        t.knowsAPartAlone();
        t.heldAtAMillion();
        t.unknownWords();
        t.partsOfTownsAlone();
        t.whatStandsBehind();
        t.questionEndsTooSoon();
        t.digitsAndBlanks();
        t.seventhOpen();
        t.openUntilItEnds();
        t.faultOfAQuestion();
        t.whenItCannotBeAsked();
        t.imageAtFirst();
        t.imageOfYears();
        t.imageOfCoins();
        t.imageOfPeople();
        t.imageInOrder();
        t.imageCheck();
        t.octets();
        t.latestImage();
        t.onYears();
        t.onDays();
        t.onDayZero();
        t.onFeast();
        t.onCoins();
        t.onAgo();
        t.onDead();
        t.onTold();
        t.onBribes();
        t.onThirty();
        t.onCheck();
        t.onLength();
        t.onThisTown();
        t.onAllAsItTells();
        t.onThatCannotBe();
        c.close();
    }

    private void ask(ForgottenFeast x, String question, int n, long due) {
        c.due("<" + question + "> of " + n, Check.ask(x, question, n), due);
        c.due("fault(0) of <" + question + ">", x.fault(0), 0);
        c.due("fault(1) of <" + question + ">", x.fault(1), Check.NONE);
        c.due("the tape is gone", x.feed(0, 0, 0, 0, 0), 20);
    }

    /** The FAULT is where the sign @ stands, which is no part of the text. */
    private void bad(int fault, String marked) {
        ForgottenFeast x = Check.of(RINGS);
        int place = marked.indexOf('@');
        c.askFault(x, marked.substring(0, place) + marked.substring(place + 1), fault, place);
        c.due("the tape is gone", x.feed(0, 0, 0, 0, 0), 20);
    }

    private void good(String question) {
        c.askFault(Check.of(RINGS), question, 0, Check.NONE);
    }

    private static byte[] bytes(String text) {
        return text.getBytes(StandardCharsets.ISO_8859_1);
    }

    private static byte[] bytes(int... of) {
        byte[] b = new byte[of.length];
        for (int i = 0; i < b.length; i++) {
            b[i] = (byte) of[i];
        }
        return b;
    }

    /** "the n-th DAY AHEAD (1 .. 120)". */
    private void oneToHundredAndTwenty() {
        ForgottenFeast x = Check.of(Texts.town(90, 1));
        ask(x, "most day", 1, 1);
        ask(x, "most day", 90, 90);
        ask(x, "most day", 91, 1);
        ask(x, "most day", 120, 30);
        for (int n : new int[] {0, -1, 121, Integer.MIN_VALUE, Integer.MAX_VALUE}) {
            c.due("of " + n, Check.ask(x, "most day", n), Check.NOTHING);
        }
        Check.on(x, Check.sealed(3, 231, 88, 0, 0, 0, 0, 0, 0, 0, 0, 0));
        ask(x, "most day", 2, 90);
        c.due("beyond YEAR 999", Check.ask(x, "most day", 3), Check.NOTHING);
    }

    /** "the first, the last one for whom it holds"; "NONE of first, last, when its TEST holds for none". */
    private void firstAndLast() {
        ForgottenFeast x = Check.of(RINGS);
        ask(x, "first all", 1, 0);
        ask(x, "last all", 1, 7);
        ask(x, "first mind=8", 1, 7);
        ask(x, "last mind=1", 1, 0);
        ask(x, "first mind>3 and mind<6", 1, 3);
        ask(x, "last mind>3 and mind<6", 1, 4);
        ask(x, "first mind=9", 1, -1);
        ask(x, "last mind=9", 1, -1);
    }

    /** "often TEST (for how many)": 0 for none. */
    private void often() {
        ForgottenFeast x = Check.of(RINGS);
        ask(x, "often all", 1, 8);
        ask(x, "often not all", 1, 0);
        ask(x, "often mind=8 or mind=1", 1, 2);
    }

    /** "total SUM (of all together)": it is not held at 10 to the 6, each one's sum is. */
    private void total() {
        ForgottenFeast x = Check.of(RINGS);
        ask(x, "total mind", 1, 36);
        ask(x, "total 0", 1, 0);
        ask(x, "total 0-mind", 1, -36);
        ask(x, "total 1000*1000", 1, 8000000);
        ask(x, "total 9999*9999", 1, 8000000);
        ask(x, "total 0-9999*9999", 1, -8000000);
    }

    /** "most SUM, least SUM (the greatest, the least of all". */
    private void mostAndLeast() {
        ForgottenFeast x = Check.of(RINGS);
        ask(x, "most mind", 1, 8);
        ask(x, "least mind", 1, 1);
        ask(x, "most 0-mind", 1, -1);
        ask(x, "least 0-mind", 1, -8);
        ask(x, "most 5", 1, 5);
        ask(x, "least 5", 1, 5);
        ask(x, "least mind-9", 1, -8);
        ask(x, "most mind-9", 1, -1);
        ask(x, "least mind+9", 1, 10);
        ask(x, "most(mind-4)*(mind-4)", 1, 16);
        ask(x, "least(mind-4)*(mind-4)", 1, 0);
    }

    /** "0 without PEOPLE". */
    private void withoutPeople() {
        ForgottenFeast x = Check.of("days 5;");
        ask(x, "first all", 1, -1);
        ask(x, "last all", 1, -1);
        ask(x, "often all", 1, 0);
        ask(x, "total 7", 1, 0);
        ask(x, "most 0-7", 1, 0);
        ask(x, "least 7", 1, 0);
    }

    /** "His number": from 0 on. */
    private void numbers() {
        ForgottenFeast x = Check.of(RINGS);
        ask(x, "least number", 1, 0);
        ask(x, "most number", 1, 7);
        ask(x, "total number", 1, 28);
        ask(x, "first number=7", 1, 7);
        ask(x, "first number=8", 1, -1);
    }

    /** "1 if he is dead". */
    private void deadOrNot() {
        ForgottenFeast x = Check.of(RINGS);
        ask(x, "total dead", 1, 0);
        x.dies(0);
        x.dies(7);
        ask(x, "total dead", 1, 2);
        ask(x, "first dead=1", 1, 0);
        ask(x, "last dead=1", 1, 7);
        ask(x, "first dead=0", 120, 1);
    }

    /** "told off for it". */
    private void toldOfTheDay() {
        ForgottenFeast x = Check.of(Texts.town(90, 8) + "told h on 1;told a on 90;told b on 90;");
        ask(x, "first told=1", 1, 7);
        ask(x, "total told", 1, 1);
        ask(x, "total told", 2, 0);
        ask(x, "total told", 90, 2);
        ask(x, "last told=1", 90, 1);
        ask(x, "last told=1", 91, 7);
    }

    /** "ago as it is behind it". */
    private void agoBehindTheDay() {
        ForgottenFeast x = Check.of(Texts.town(90, 2) + "thinks mind=1 and day>1;");
        ask(x, "most ago", 1, 0);
        ask(x, "first ago=0", 2, 0);
        ask(x, "first ago=1", 2, 1);
        ask(x, "most ago", 90, 89);
        Check.town(x, Texts.town(90, 2) + "thinks mind=1;");
        ask(x, "most ago", 98, 98);
        ask(x, "most ago", 99, 99);
        ask(x, "most ago", 100, 99);
        ask(x, "least ago", 100, 0);
    }

    /** "thinks on it": of himself or reminded. */
    private void thinksOnTheDay() {
        ForgottenFeast x = Check.of(Texts.town(5, 3) + "reminds c a;thinks mind=3 and day=2;");
        ask(x, "often thinks=1", 1, 0);
        ask(x, "often thinks=1", 2, 2);
        ask(x, "first thinks=0", 2, 1);
    }

    /** "if it is the FEAST, else 0": not that it has been. */
    private void feastOfTheDay() {
        ForgottenFeast x = Check.of(Texts.town(5, 2) + "thinks day=1;");
        ask(x, "total feast", 1, 0);
        ask(x, "total feast", 2, 2);
        ask(x, "total feast", 3, 0);
        ask(x, "total feast", 7, 2);
        x.go(2);
        ask(x, "total feast", 1, 0);
    }

    private void dayAhead() {
        ForgottenFeast x = Check.of(Texts.town(5, 1));
        for (int n = 1; n <= 11; n++) {
            ask(x, "least day", n, (n - 1) % 5 + 1);
        }
    }

    /** "1 if the one of that number reminds him, else 0": each of eight. */
    private void knowsEachOther() {
        ForgottenFeast x = Check.of(RINGS);
        for (int q = 0; q < 8; q++) {
            ask(x, "total knows " + q, 1, 1);
            ask(x, "first knows " + q + "=1", 1, (q + 7) % 8);
        }
        ask(x, "often knows number=1", 1, 0);
        ask(x, "total knows(number+1)", 1, 7);
        ask(x, "first knows(number+1)=0", 1, 7);
    }

    /** "0 of numbers that there are not". */
    private void knowsNumbersThatThereAreNot() {
        ForgottenFeast x = Check.of(Texts.town(5, 2) + "reminds a b;reminds b a;");
        ask(x, "total knows 0", 1, 1);
        ask(x, "total knows 1", 1, 1);
        for (String number : new String[] {"2", "3", "7", "8", "9", "16", "31", "32", "33", "64", "9999", "(0-1)", "(0-2)", "(0-32)",
            "(0-31)", "(1000*1000)", "(0-1000*1000)"}) {
            ask(x, "total knows " + number, 1, 0);
        }
        x = Check.of(RINGS);
        for (String number : new String[] {"8", "9", "31", "32", "39", "(0-1)", "(0-8)", "(0-25)"}) {
            ask(x, "total knows " + number, 1, 0);
        }
    }

    /** "knows PART": what is behind the PART works on what knows gives. */
    private void knowsAPartAlone() {
        ForgottenFeast x = Check.of(Texts.town(5, 2) + "reminds a b;");
        ask(x, "total knows 0+1", 1, 3);
        ask(x, "total knows(0+1)", 1, 0);
        ask(x, "total knows 0*5", 1, 5);
        ask(x, "total 7-knows 0", 1, 13);
        ask(x, "total knows knows 1", 1, 1);
        ask(x, "total knows min(0,1)", 1, 1);
        ask(x, "first knows 0>0", 1, 1);
    }

    /** "TEST, SUM as in I". */
    private void heldAtAMillion() {
        ForgottenFeast x = Check.of(Texts.town(5, 1));
        ask(x, "most 1000*1000", 1, 1000000);
        ask(x, "most 1000*1000+1", 1, 1000000);
        ask(x, "most 1000*1000-1", 1, 999999);
        ask(x, "least 0-1000*1000-1", 1, -1000000);
        ask(x, "least 1-1000*1000", 1, -999999);
        ask(x, "most(0-7)/2", 1, -4);
        ask(x, "most 7/0", 1, 0);
        ask(x, "most 9-5-3", 1, 1);
        ask(x, "often all or all and not all", 1, 1);
    }

    /** "(an unknown word at its first byte". */
    private void unknownWords() {
        bad(1, "@x");
        bad(1, " @firstt all");
        bad(1, "@abcdefgh");
        bad(1, "@days");
        bad(1, "@5");
        bad(1, "@First all");
        bad(1, "total @x");
        bad(1, "total @abcdefgh");
        bad(1, "total @first");
        bad(1, "first @foo=1");
        bad(1, "first mind=@foo");
        bad(1, "first not @abcdefghijk=1");
        bad(1, "total 1+@minds");
        bad(1, "total knows @a");
    }

    /** The PARTS of towns' rules alone, and the other words. */
    private void partsOfTownsAlone() {
        for (String word : new String[] {"year", "frost", "other", "asks", "person", "days", "on", "for", "hears", "slips", "mortal",
            "reminds", "often", "or", "and", "not", "all"}) {
            bad(1, "total @" + word);
        }
        for (String word : new String[] {"number", "mind", "told", "ago", "dead", "feast", "day", "thinks"}) {
            good("total " + word);
            good("first " + word + "=0");
        }
        ForgottenFeast x = new ForgottenFeast();
        Check.town(x, Texts.town(5, 1) + "hears other=1;");
        c.askFault(x, "total other", 1, 6);
    }

    /** "what stands behind it, too)". */
    private void whatStandsBehind() {
        bad(1, "first all@;");
        bad(1, "first all @all");
        bad(1, "first all @first all");
        bad(1, "total 1 @2");
        bad(1, "total 1 @12345");
        bad(1, "total mind @abcdefgh");
        bad(1, "total mind@=1");
        bad(1, "total mind@)");
        bad(1, "first mind=1@]");
        bad(1, "often 1=1@=1");
        bad(1, "total 1@\t");
        good("total 1 \n ");
    }

    /** "at the text's length, if it ends too soon". */
    private void questionEndsTooSoon() {
        for (String text : new String[] {"first not [ min ( 1 , 2 ) = 1 ] and ago > 3 - 1 or all ", "total ( 1 + 2 ) * 3 / 4 - knows 5 "}) {
            for (int at = 0; at < text.length(); at++) {
                String cut = text.substring(0, at);
                boolean apart = at == 0 || text.charAt(at) == ' ' || text.charAt(at - 1) == ' ';
                ForgottenFeast x = Check.of(RINGS);
                if (apart && Check.ask(x, cut, 1) == Check.NOTHING) {
                    bad(1, cut + "@");
                }
            }
            good(text);
        }
        bad(1, "@");
        bad(1, "  @");
        bad(1, "first@");
        bad(1, "first all and@");
        bad(1, "total 1+ @");
    }

    private void digitsAndBlanks() {
        bad(1, "total 1234@5");
        bad(1, "total 0000@0");
        good("total 9999");
        bad(1, "total@5");
        bad(1, "total 5@mind");
        bad(1, "total knows@5");
        good("total(5)");
        good("\ntotal\n5\n");
        bad(1, "total@\t5");
    }

    /** "4 the 7th of ( [ not knows that is open at once". */
    private void seventhOpen() {
        good("total((((((1))))))");
        bad(4, "total((((((@(1)))))))");
        good("first[[[[[[all]]]]]]");
        bad(4, "first[[[[[[@[all]]]]]]]");
        good("first not not not not not not all");
        bad(4, "first not not not not not not @not all");
        good("total knows knows knows knows knows knows 1");
        bad(4, "total knows knows knows knows knows knows @knows 1");
        good("first[not(knows(knows 1))=1]");
        bad(4, "first[not(knows(knows @knows 1))=1]");
        bad(4, "first[not(knows(knows @(1)))=1]");
        bad(4, "first not not not not not not @knows 1=1");
        bad(4, "total knows knows knows knows knows knows @(1)");
        bad(4, "total knows knows knows knows knows knows min@(1,2)");
        good("total min(min(min(min(min(min(1,2),2),2),2),2),2)");
        bad(4, "total min(min(min(min(min(min(min@(1,2),2),2),2),2),2),2)");
    }

    /** "(not until its FACT, knows until its PART ends)". */
    private void openUntilItEnds() {
        good("total knows knows knows knows knows knows 1+knows knows knows knows knows knows 1");
        good("total(((((knows 1+knows 2)))))");
        good("total(((((knows 1*knows 2)))))-((((((1))))))");
        good("first not not not not not knows 1=knows 2 and not not not not not not all");
        bad(4, "first not not not not not not 1=@knows 2");
        good("first[[[[[not all or not all]]]]]or[[[[[[all]]]]]]");
        bad(4, "total((((((1))))))+((((((@(1)))))))");
    }

    /** "NOTHING with a FAULT": no refusal is counted, all else stays. */
    private void faultOfAQuestion() {
        new Twins(c, EdgesOfQuestionsTest::life).refusedText("a FAULT", "total foo", x -> x.ask(1), Check.NOTHING, -1);
        new Twins(c, EdgesOfQuestionsTest::life).refusedText("no text", "", x -> x.ask(1), Check.NOTHING, -1);
        ForgottenFeast x = new ForgottenFeast();
        life(x);
        Check.ask(x, "total foo", 1);
        c.due("fault(0)", x.fault(0), 1);
        c.due("fault(1)", x.fault(1), 6);
        Check.ask(x, "[", 1);
        c.due("fault(1)", x.fault(1), 0);
        Check.ask(x, "total 1", 1);
        c.due("fault(0)", x.fault(0), 0);
        c.due("fault(1)", x.fault(1), -1);
        Check.town(x, "days 3;");
        c.due("of the latest town()", x.fault(0), 2);
        Check.ask(x, "total 1", 1);
        c.due("of the latest ask()", x.fault(0), 0);
    }

    private static void life(ForgottenFeast x) {
        Check.town(x, Texts.town(6, 3) + "reminds a b;reminds b c;told a on 2;told c on 5;mortal 100;");
        x.go(7);
        x.bribe(0, 5);
        Check.see(x, 1, 1);
        x.image();
        Check.ask(x, "first", 1);
    }

    /** "or, doing nothing else, when n can't be, or without a town". */
    private void whenItCannotBeAsked() {
        for (int n : new int[] {0, -1, 121, Integer.MIN_VALUE, Integer.MAX_VALUE}) {
            new Twins(c, EdgesOfQuestionsTest::life).refusedTape("ask(" + n + ")", bytes("total 1"), x -> x.ask(n), Check.NOTHING, -1);
            new Twins(c, EdgesOfQuestionsTest::life).refusedTape("ask(" + n + ")", bytes("foo"), x -> x.ask(n), Check.NOTHING, -1);
        }
        new Twins(c, x -> x.seed(3)).refusedTape("without a town", bytes("total 1"), x -> x.ask(1), Check.NOTHING, -1);
        new Twins(c, x -> x.seed(3)).refusedTape("without a town", bytes("foo"), x -> x.ask(1), Check.NOTHING, -1);
        new Twins(c, x -> Check.town(x, "foo")).refusedTape("without a town", bytes("total 1"), x -> x.ask(1), Check.NOTHING, -1);
        new Twins(c, x -> {
            Check.town(x, Texts.town(5, 1));
            Check.on(x, Check.sealed(3, 231, 5, 0, 0, 0, 0, 0, 0, 0, 0, 0));
        }).refusedTape("no DAY AHEAD", bytes("total 1"), x -> x.ask(1), Check.NOTHING, -1);
    }

    // ---- images

    private void same(String what, int[] got, int... want) {
        c.due(what + ": length", got.length, want.length);
        for (int i = 0; i < Math.min(got.length, want.length); i++) {
            c.due(what + ": byte " + i, got[i], want[i]);
        }
    }

    private void imageAtFirst() {
        same("no town", Check.image(new ForgottenFeast()), Check.sealed(0, 1, 0, 0, 0, 0, 0, 0, 0, 0));
        same("no PEOPLE", Check.image(Check.of("days 5;")), Check.sealed(0, 1, 0, 0, 0, 0, 0, 0, 0, 0));
        same("one", Check.image(Check.of(Texts.town(5, 1))), Check.sealed(0, 1, 0, 0, 0, 0, 0, 0, 0, 0, 0, 0));
        ForgottenFeast x = Check.of(Texts.town(90, 8) + Texts.told(30));
        c.due("30 told off", x.image(), 7 + 16 + 1 + 60 + 1 + 1);
        for (int i = 0; i < 30; i++) {
            x.bribe(i % 8, 90 - i / 8);
        }
        c.due("and 30 bribes", x.image(), 146);
    }

    /** "YEAR (two bytes, the higher first), DAY, this YEAR's FEAST (0 none)". */
    private void imageOfYears() {
        ForgottenFeast x = Check.of("days 90;");
        for (int year : new int[] {1, 2, 254, 255, 256, 257, 510, 511, 512, 767, 768, 998, 999}) {
            for (int day : new int[] {1, 89, 90}) {
                int[] image = Check.sealed(year / 256, year % 256, day, day - 1, 0, 0, 0, 0, 0, 0);
                c.due("on()", Check.on(x, image), true);
                c.due("has(3)", x.has(3), year);
                c.due("has(4)", x.has(4), day);
                c.due("has(5)", x.has(5), day - 1);
                same("YEAR " + year, Check.image(x), image);
            }
        }
    }

    /** "coins paid (three bytes)". */
    private void imageOfCoins() {
        ForgottenFeast x = Check.of("days 90;");
        for (int coins : new int[] {0, 1, 255, 256, 257, 65280, 65534, 65535, 65536, 65537, 131071, 131072, 999998, 999999}) {
            int[] image = Check.sealed(0, 1, 0, 0, coins >> 16, coins >> 8 & 255, coins & 255, 0, 0, 0);
            c.due("on()", Check.on(x, image), true);
            c.due("has(8)", x.has(8), coins);
            same("coins " + coins, Check.image(x), image);
        }
    }

    /** "for each of the PEOPLE ago, 1 if he is dead, else 0". */
    private void imageOfPeople() {
        ForgottenFeast x = Check.of(Texts.town(90, 8) + "thinks mind=1;");
        x.dies(7);
        x.go(90);
        x.go(9);
        x.dies(0);
        int[] image = Check.image(x);
        for (int p = 0; p < 8; p++) {
            c.due("ago of " + p, image[7 + 2 * p], p == 0 ? 0 : 99);
            c.due("whether " + p + " is dead", image[8 + 2 * p], p % 7 == 0 ? 1 : 0);
        }
        x.go(1);
        c.due("99 at most, but the FEAST", Check.image(x)[9], 0);
    }

    /** "how many are told off, for each DAY, PERSON; how many bribes ... (by DAYS, then by numbers)". */
    private void imageInOrder() {
        ForgottenFeast x = Check.of(Texts.town(90, 8));
        int[][] acts = {{7, 90}, {0, 90}, {3, 45}, {7, 1}, {0, 2}, {6, 90}, {0, 1}};
        for (int[] a : acts) {
            x.tell(a[0], a[1]);
            x.bribe(a[0], a[1]);
        }
        int[] list = {7, 1, 0, 1, 7, 2, 0, 45, 3, 90, 0, 90, 6, 90, 7};
        int[] image = Check.image(x);
        for (int i = 0; i < list.length; i++) {
            c.due("told off, byte " + i, image[23 + i], list[i]);
            c.due("bribes, byte " + i, image[23 + list.length + i], list[i]);
        }
        c.due("length", image.length, 23 + 2 * list.length + 1);
        c.due("on()", Check.on(x, image), true);
        same("as it was", Check.image(x), image);
    }

    /** "last a byte: all ahead from 239 on, c = (3 c + it) mod 251". */
    private void imageCheck() {
        ForgottenFeast x = Check.of(Texts.town(5, 2) + "told b on 3;");
        x.go(4);
        int[] image = Check.image(x);
        int check = 239;
        for (int i = 0; i < image.length - 1; i++) {
            check = (3 * check + image[i]) % 251;
        }
        c.due("the last byte", image[image.length - 1], check);
    }

    /** "Byte k of the latest image(); NONE when there is none such". */
    private void octets() {
        ForgottenFeast x = Check.of(Texts.town(5, 1));
        for (int k : new int[] {-1, 0, 1, 9}) {
            c.due("no image: octet(" + k + ")", x.octet(k), Check.NONE);
        }
        int length = x.image();
        c.due("image()", length, 12);
        c.due("the first", x.octet(0), 0);
        c.due("the second", x.octet(1), 1);
        c.due("the last", x.octet(11) >= 0, true);
        for (int k : new int[] {-1, 12, 13, 14, 145, 146, 147, 1000, Integer.MIN_VALUE, Integer.MAX_VALUE}) {
            c.due("octet(" + k + ")", x.octet(k), Check.NONE);
        }
    }

    /** The latest image() stays as it was written, whatever comes; a shorter one leaves nothing of it. */
    private void latestImage() {
        ForgottenFeast x = Check.of(Texts.town(5, 2) + "told a on 1;");
        x.bribe(1, 2);
        int length = x.image();
        int[] first = new int[length];
        for (int k = 0; k < length; k++) {
            first[k] = x.octet(k);
        }
        x.go(3);
        x.dies(0);
        x.undo();
        Check.on(x, Check.sealed(0, 5, 1, 0, 0, 0, 0, 0, 0, 0, 0, 0, 0, 0));
        Check.town(x, "days 5;");
        for (int k = 0; k < length; k++) {
            c.due("octet(" + k + ")", x.octet(k), first[k]);
        }
        c.due("image()", x.image(), 10);
        c.due("octet(10)", x.octet(10), Check.NONE);
        c.due("octet(" + (length - 1) + ")", x.octet(length - 1), Check.NONE);
    }

    private static final String TWO = Texts.town(9, 2);

    /** An image of a town of two, with these bytes ahead of the PEOPLE and behind them. */
    private boolean reads(int year, int day, int feast, int coins, int... rest) {
        int[] image = new int[7 + rest.length + 1];
        image[0] = year / 256;
        image[1] = year % 256;
        image[2] = day;
        image[3] = feast;
        image[4] = coins / 65536;
        image[5] = coins / 256 % 256;
        image[6] = coins % 256;
        System.arraycopy(rest, 0, image, 7, rest.length);
        return takes(Check.sealed(image));
    }

    private boolean takes(int... image) {
        ForgottenFeast x = Check.of(TWO + "told a on 1;");
        boolean good = Check.on(x, image);
        c.due("status(5)", x.status(5), good ? 0 : 1);
        c.due("the tape is gone", x.feed(0, 0, 0, 0, 0), 20);
        if (good) {
            same("as it tells", Check.image(x), image);
        } else {
            same("all stays", Check.image(x), Check.sealed(0, 1, 0, 0, 0, 0, 0, 0, 0, 0, 0, 1, 1, 0, 0, 0));
        }
        return good;
    }

    /** "YEARS 1 .. 999". */
    private void onYears() {
        c.due("YEAR 0", reads(0, 1, 0, 0, 0, 0, 0, 0, 0, 0), false);
        c.due("YEAR 1", reads(1, 1, 0, 0, 0, 0, 0, 0, 0, 0), true);
        c.due("YEAR 999", reads(999, 9, 0, 0, 0, 0, 0, 0, 0, 0), true);
        c.due("YEAR 1000", reads(1000, 1, 0, 0, 0, 0, 0, 0, 0, 0), false);
        c.due("YEAR 65535", reads(65535, 1, 0, 0, 0, 0, 0, 0, 0, 0), false);
        c.due("YEAR 256", reads(256, 1, 0, 0, 0, 0, 0, 0, 0, 0), true);
    }

    /** "DAYS that there are". */
    private void onDays() {
        c.due("DAY 9", reads(1, 9, 0, 0, 0, 0, 0, 0, 0, 0), true);
        c.due("DAY 10", reads(1, 10, 0, 0, 0, 0, 0, 0, 0, 0), false);
        c.due("DAY 255", reads(1, 255, 0, 0, 0, 0, 0, 0, 0, 0), false);
    }

    /** "DAY 0 in YEAR 1 alone". */
    private void onDayZero() {
        c.due("YEAR 1", reads(1, 0, 0, 0, 0, 0, 0, 0, 0, 0), true);
        c.due("YEAR 2", reads(2, 0, 0, 0, 0, 0, 0, 0, 0, 0), false);
        c.due("YEAR 257", reads(257, 0, 0, 0, 0, 0, 0, 0, 0, 0), false);
        c.due("YEAR 999", reads(999, 0, 0, 0, 0, 0, 0, 0, 0, 0), false);
    }

    /** "a FEAST not behind the DAY". */
    private void onFeast() {
        c.due("on the DAY", reads(1, 4, 4, 0, 0, 0, 0, 0, 0, 0), true);
        c.due("ahead of it", reads(1, 4, 1, 0, 0, 0, 0, 0, 0, 0), true);
        c.due("none", reads(1, 4, 0, 0, 0, 0, 0, 0, 0, 0), true);
        c.due("behind it", reads(1, 4, 5, 0, 0, 0, 0, 0, 0, 0), false);
        c.due("none on DAY 0", reads(1, 0, 0, 0, 0, 0, 0, 0, 0, 0), true);
        c.due("one on DAY 0", reads(1, 0, 1, 0, 0, 0, 0, 0, 0, 0), false);
        c.due("255", reads(1, 9, 255, 0, 0, 0, 0, 0, 0, 0), false);
    }

    /** "coins 999999 ... at most". */
    private void onCoins() {
        c.due("999999", reads(1, 4, 0, 999999, 0, 0, 0, 0, 0, 0), true);
        c.due("1000000", reads(1, 4, 0, 1000000, 0, 0, 0, 0, 0, 0), false);
        c.due("16777215", reads(1, 4, 0, 16777215, 0, 0, 0, 0, 0, 0), false);
    }

    /** "ago 99 at most". */
    private void onAgo() {
        c.due("99", reads(1, 4, 0, 0, 99, 0, 99, 0, 0, 0), true);
        c.due("100 of the first", reads(1, 4, 0, 0, 100, 0, 99, 0, 0, 0), false);
        c.due("100 of the last", reads(1, 4, 0, 0, 99, 0, 100, 0, 0, 0), false);
        c.due("255", reads(1, 4, 0, 0, 0, 0, 255, 0, 0, 0), false);
    }

    /** "1 if he is dead, else 0". */
    private void onDead() {
        c.due("both dead", reads(1, 4, 0, 0, 0, 1, 0, 1, 0, 0), true);
        c.due("2 of the first", reads(1, 4, 0, 0, 0, 2, 0, 0, 0, 0), false);
        c.due("2 of the last", reads(1, 4, 0, 0, 0, 0, 0, 2, 0, 0), false);
        c.due("255", reads(1, 4, 0, 0, 0, 255, 0, 0, 0, 0), false);
    }

    /** "told off ... in their order, none twice": DAYS and PEOPLE that there are. */
    private void onTold() {
        c.due("the first and the last", reads(1, 4, 0, 0, 0, 0, 0, 0, 3, 1, 0, 1, 1, 9, 1, 0), true);
        c.due("DAY 0", reads(1, 4, 0, 0, 0, 0, 0, 0, 1, 0, 0, 0), false);
        c.due("DAY 10", reads(1, 4, 0, 0, 0, 0, 0, 0, 1, 10, 0, 0), false);
        c.due("DAY 255", reads(1, 4, 0, 0, 0, 0, 0, 0, 1, 255, 0, 0), false);
        c.due("PERSON 2", reads(1, 4, 0, 0, 0, 0, 0, 0, 1, 1, 2, 0), false);
        c.due("PERSON 3", reads(1, 4, 0, 0, 0, 0, 0, 0, 1, 1, 3, 0), false);
        c.due("PERSON 8", reads(1, 4, 0, 0, 0, 0, 0, 0, 1, 1, 8, 0), false);
        c.due("PERSON 255", reads(1, 4, 0, 0, 0, 0, 0, 0, 1, 1, 255, 0), false);
        c.due("DAYS not in order", reads(1, 4, 0, 0, 0, 0, 0, 0, 2, 2, 0, 1, 0, 0), false);
        c.due("DAYS not in order, PEOPLE are", reads(1, 4, 0, 0, 0, 0, 0, 0, 2, 2, 0, 1, 1, 0), false);
        c.due("DAYS in order, PEOPLE are not", reads(1, 4, 0, 0, 0, 0, 0, 0, 2, 1, 1, 2, 0, 0), true);
        c.due("PEOPLE not in order", reads(1, 4, 0, 0, 0, 0, 0, 0, 2, 1, 1, 1, 0, 0), false);
        c.due("one twice", reads(1, 4, 0, 0, 0, 0, 0, 0, 2, 1, 1, 1, 1, 0), false);
        c.due("one twice, not side by side", reads(1, 4, 0, 0, 0, 0, 0, 0, 3, 1, 0, 1, 1, 1, 0, 0), false);
    }

    /** "bribes ... in their order, none twice, bribes of DAYS to come". */
    private void onBribes() {
        c.due("the first and the last", reads(1, 4, 0, 0, 0, 0, 0, 0, 0, 3, 5, 0, 5, 1, 9, 1), true);
        c.due("today", reads(1, 4, 0, 0, 0, 0, 0, 0, 0, 1, 4, 0), false);
        c.due("yesterday", reads(1, 4, 0, 0, 0, 0, 0, 0, 0, 1, 3, 0), false);
        c.due("DAY 1 at first", reads(1, 0, 0, 0, 0, 0, 0, 0, 0, 1, 1, 0), true);
        c.due("DAY 0 at first", reads(1, 0, 0, 0, 0, 0, 0, 0, 0, 1, 0, 0), false);
        c.due("DAY 10", reads(1, 4, 0, 0, 0, 0, 0, 0, 0, 1, 10, 0), false);
        c.due("none to come", reads(1, 9, 0, 0, 0, 0, 0, 0, 0, 1, 9, 0), false);
        c.due("of the next YEAR", reads(1, 9, 0, 0, 0, 0, 0, 0, 0, 1, 1, 0), false);
        c.due("PERSON 2", reads(1, 4, 0, 0, 0, 0, 0, 0, 0, 1, 5, 2), false);
        c.due("PERSON 3", reads(1, 4, 0, 0, 0, 0, 0, 0, 0, 1, 5, 3), false);
        c.due("one who is dead", reads(1, 4, 0, 0, 0, 1, 0, 0, 0, 1, 5, 0), true);
        c.due("DAYS not in order", reads(1, 4, 0, 0, 0, 0, 0, 0, 0, 2, 6, 0, 5, 1), false);
        c.due("PEOPLE not in order", reads(1, 4, 0, 0, 0, 0, 0, 0, 0, 2, 5, 1, 5, 0), false);
        c.due("one twice", reads(1, 4, 0, 0, 0, 0, 0, 0, 0, 2, 5, 1, 5, 1), false);
    }

    /** "30 told off, 30 bribes at most". */
    private void onThirty() {
        ForgottenFeast x = Check.of(Texts.town(90, 8));
        for (int told : new int[] {0, 29, 30, 31, 32, 255}) {
            for (int bribes : new int[] {0, 29, 30, 31, 32, 255}) {
                int[] image = new int[7 + 16 + 1 + 2 * told + 1 + 2 * bribes + 1];
                image[1] = 1;
                int at = list(image, 23, told);
                list(image, at, bribes);
                image = Check.sealed(image);
                boolean good = told <= 30 && bribes <= 30;
                c.due(told + " told off, " + bribes + " bribes", Check.on(x, image), good);
                if (good) {
                    c.due("has(6)", x.has(6), told);
                    c.due("has(7)", x.has(7), bribes);
                }
            }
        }
    }

    private static int list(int[] image, int from, int count) {
        image[from] = count;
        for (int i = 0; i < count; i++) {
            image[from + 1 + 2 * i] = i / 8 + 1;
            image[from + 2 + 2 * i] = i % 8;
        }
        return from + 1 + 2 * count;
    }

    private void onCheck() {
        int[] image = Check.sealed(0, 1, 4, 2, 0, 0, 5, 1, 0, 2, 0, 1, 3, 1, 1, 5, 0, 0);
        c.due("as it is", takes(image), true);
        for (int i = 0; i < image.length; i++) {
            int[] other = image.clone();
            other[i] ^= 1;
            c.due("byte " + i + " is another", takes(other), false);
        }
        for (int last = 0; last < 256; last++) {
            int[] other = image.clone();
            other[image.length - 1] = last;
            c.due("the last byte is " + last, takes(other), last == image[image.length - 1]);
        }
    }

    /** A byte more or less, sealed or not, is none. */
    private void onLength() {
        int[] image = {0, 1, 4, 2, 0, 0, 5, 1, 0, 2, 0, 1, 3, 1, 1, 5, 0, 0};
        c.due("as it is", takes(Check.sealed(image)), true);
        for (int length = 0; length < image.length; length++) {
            int[] cut = java.util.Arrays.copyOf(image, length);
            c.due("cut to " + length, takes(cut), false);
            c.due("cut to " + length + " and sealed", length > 0 && takes(Check.sealed(cut)), false);
        }
        c.due("a byte more", takes(java.util.Arrays.copyOf(Check.sealed(image), image.length + 1)), false);
        c.due("a byte more, sealed", takes(Check.sealed(java.util.Arrays.copyOf(image, image.length + 1))), false);
        c.due("two bytes more, sealed", takes(Check.sealed(java.util.Arrays.copyOf(image, image.length + 2))), false);
        c.due("1600 bytes, sealed", takes(Check.sealed(java.util.Arrays.copyOf(image, 1600))), false);
        c.due("1600 bytes of 255", takes(bytesOf255()), false);
    }

    private static int[] bytesOf255() {
        int[] image = new int[1600];
        java.util.Arrays.fill(image, 255);
        return Check.sealed(image);
    }

    /** "AN IMAGE of this TOWN": of one with as many PEOPLE, and no fewer DAYS than it tells of. */
    private void onThisTown() {
        int[] image = Check.image(Check.of(Texts.town(9, 2) + "told a on 7;"));
        c.due("seven DAYS", Check.on(Check.of(Texts.town(7, 2)), image), true);
        c.due("six DAYS", Check.on(Check.of(Texts.town(6, 2)), image), false);
        c.due("three PEOPLE", Check.on(Check.of(Texts.town(9, 3)), image), false);
        c.due("one of the PEOPLE", Check.on(Check.of(Texts.town(9, 1)), image), false);
        c.due("nobody", Check.on(Check.of("days 9;"), image), false);
        c.due("nobody", Check.on(Check.of("days 5;"), Check.sealed(0, 1, 5, 5, 0, 0, 0, 0, 0, 0)), true);
    }

    /** "all is as it tells, nothing is KEPT or can be undone": SEEN, the seed, refusals and the FAULT stay. */
    private void onAllAsItTells() {
        ForgottenFeast x = new ForgottenFeast();
        life(x);
        x.dies(2);
        x.undo();
        x.seed(9);
        int[] image = Check.sealed(0, 3, 2, 1, 0, 1, 4, 7, 0, 0, 1, 99, 0, 1, 6, 2, 1, 4, 1, 0);
        c.due("on()", Check.on(x, image), true);
        int[] has = {6, 3, 2, 3, 2, 1, 1, 1, 260, 0, 1, 0};
        for (int what = 0; what < has.length; what++) {
            c.due("has(" + what + ")", x.has(what), has[what]);
        }
        int[] ago = {7, 0, 99};
        for (int p = 0; p < 3; p++) {
            c.due("ago of " + p, x.person(p, 2), ago[p]);
            c.due("whether " + p + " is dead", x.person(p, 3), p == 1 ? 1 : 0);
        }
        c.due("day(6, 0)", x.day(6, 0), 4);
        c.due("day(2, 0), of the text", x.day(2, 0), 0);
        c.due("day(4, 1)", x.day(4, 1), 2);
        c.due("day(5, 1), of the ACTS", x.day(5, 1), 0);
        c.due("kept(0, 0)", x.kept(0, 0), Check.NONE);
        c.due("law(0)", x.law(0), Check.NONE);
        c.due("fault(0)", x.fault(0), 1);
        c.due("status(5)", x.status(5), 0);
        c.due("undo()", x.undo(), false);
        c.due("go(3), this YEAR had its FEAST", x.go(3), 0);
        c.due("has(11)", x.has(11), 1);
        c.due("undo()", x.undo(), true);
        same("as it told", Check.image(x), image);
        ForgottenFeast y = new ForgottenFeast();
        life(y);
        y.seed(9);
        Check.on(y, image);
        c.due("the seed stays", x.chance(40), y.chance(40));
    }

    /** "false, refused (5), when it is none ..., or there is no town, all staying". */
    private void onThatCannotBe() {
        int[] good = Check.sealed(0, 3, 2, 1, 0, 1, 4, 7, 0, 0, 1, 99, 0, 1, 6, 2, 1, 4, 1, 0);
        int[] bad = good.clone();
        bad[bad.length - 1] ^= 1;
        int[] late = Check.sealed(0, 3, 2, 1, 0, 1, 4, 7, 0, 0, 1, 99, 0, 1, 6, 2, 1, 2, 1, 0);
        int[] old = Check.sealed(0, 3, 2, 1, 0, 1, 4, 7, 0, 0, 1, 100, 0, 1, 6, 2, 1, 4, 1, 0);
        for (int[] image : new int[][] {bad, late, old, {}, {0}, {174}, Check.sealed(0, 1, 0, 0, 0, 0, 0, 0, 0, 0)}) {
            new Twins(c, EdgesOfQuestionsTest::life).refusedTape("on()", bytes(image), x -> x.on() ? 1 : 0, 0, 5);
        }
        new Twins(c, x -> x.seed(3)).refusedTape("without a town", bytes(Check.sealed(0, 1, 0, 0, 0, 0, 0, 0, 0, 0)),
            x -> x.on() ? 1 : 0, 0, 5);
        new Twins(c, x -> Check.town(x, "foo")).refusedTape("without a town", bytes(Check.sealed(0, 1, 0, 0, 0, 0, 0, 0, 0, 0)),
            x -> x.on() ? 1 : 0, 0, 5);
    }
}
