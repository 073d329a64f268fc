/** Promises 25 to 30 and 35: tell, bribe, dies, chance, undo, seed, status. */
public final class ActsTest {
    private static final String THREE = "days 9;person a mind 3 asks 10;person b mind 5 asks 4;person d mind 7 asks 99;";

    public static void main(String[] args) {
        Check c = new Check("ActsTest");
        telling(c);
        thirtyTold(c);
        bribing(c);
        thirtyBribes(c);
        coinsAreHeld(c);
        dying(c);
        chances(c);
        undoing(c);
        twentyActs(c);
        seeds(c);
        refusals(c);
        c.close();
    }

    private static void telling(Check c) {
        ForgottenFeast x = Check.of(THREE + "told a on 1;");
        c.due("tell(1, 1)", x.tell(1, 1), 1);
        c.due("day(1, 0)", x.day(1, 0), 3);
        c.due("tell(0, 1)", x.tell(0, 1), 0);
        c.due("day(1, 0)", x.day(1, 0), 2);
        c.due("has(6)", x.has(6), 1);
        c.due("tell(2, 9)", x.tell(2, 9), 1);
        int[][] wrong = {{3, 1}, {-1, 1}, {0, 0}, {0, 10}, {0, -1}, {Integer.MIN_VALUE, Integer.MAX_VALUE}};
        for (int[] w : wrong) {
            c.due("tell(" + w[0] + ", " + w[1] + ")", x.tell(w[0], w[1]), -1);
        }
        c.due("status(3)", x.status(3), 6);
        c.due("has(11)", x.has(11), 3);
        x.go(9);
        c.due("each YEAR", x.later(1, 0), 2);
        c.due("a DAY that has been", x.tell(0, 1), 1);
        c.due("each YEAR", x.later(1, 0), 3);
        x.dies(2);
        c.due("one who is dead", x.tell(2, 3), 1);
        c.due("person(2, 6)", x.person(2, 6), 2);
    }

    private static void thirtyTold(Check c) {
        ForgottenFeast x = Check.of("days 40;person a mind 3 asks 10;person b mind 5 asks 4;");
        for (int d = 1; d <= 30; d++) {
            c.due("tell(0, " + d + ")", x.tell(0, d), 1);
        }
        c.due("tell(0, 31)", x.tell(0, 31), -1);
        c.due("tell(1, 1)", x.tell(1, 1), -1);
        c.due("has(6)", x.has(6), 30);
        c.due("status(3)", x.status(3), 2);
        c.due("not any more", x.tell(0, 30), 0);
        c.due("again", x.tell(1, 31), 1);
        c.due("person(0, 6)", x.person(0, 6), 29);
    }

    private static void bribing(Check c) {
        ForgottenFeast x = Check.of(THREE + "thinks all;");
        c.due("bribe(0, 1)", x.bribe(0, 1), 10);
        c.due("bribe(0, 1) again", x.bribe(0, 1), -1);
        c.due("bribe(2, 9)", x.bribe(2, 9), 99);
        c.due("has(7)", x.has(7), 2);
        c.due("has(8)", x.has(8), 109);
        c.due("later(1, 1)", x.later(1, 1), 6);
        c.due("bribe(0, 0)", x.bribe(0, 0), -1);
        c.due("bribe(0, 10)", x.bribe(0, 10), -1);
        c.due("bribe(3, 2)", x.bribe(3, 2), -1);
        c.due("bribe(-1, 2)", x.bribe(-1, 2), -1);
        x.go(2);
        c.due("gone when its DAY has come", x.has(7), 1);
        c.due("kept(0, 2)", x.kept(0, 2), 2);
        c.due("kept(1, 2)", x.kept(1, 2), 3);
        c.due("the coins are paid", x.has(8), 109);
        c.due("a DAY that has been", x.bribe(1, 2), -1);
        c.due("the next DAY", x.bribe(1, 3), 4);
        x.dies(0);
        c.due("he is dead", x.bribe(0, 5), -1);
        x.go(7);
        c.due("the last DAY: none to come", x.bribe(1, 9), -1);
        c.due("nor of the next YEAR", x.bribe(1, 1), -1);
        c.due("has(7)", x.has(7), 0);
        c.due("status(3)", x.status(3), 9);
        x.go(1);
        c.due("day(1, 1)", x.day(1, 1), 0);
        c.due("bribe(1, 9)", x.bribe(1, 9), 4);
    }

    private static void thirtyBribes(Check c) {
        ForgottenFeast x = Check.of("days 40;person a mind 3 asks 0;person b mind 5 asks 4;");
        for (int d = 1; d <= 30; d++) {
            c.due("bribe(0, " + d + ")", x.bribe(0, d), 0);
        }
        c.due("bribe(0, 31)", x.bribe(0, 31), -1);
        c.due("bribe(1, 1)", x.bribe(1, 1), -1);
        c.due("status(3)", x.status(3), 2);
        x.go(1);
        c.due("one is gone", x.bribe(1, 2), 4);
        c.due("has(7)", x.has(7), 30);
        c.due("has(8)", x.has(8), 4);
    }

    private static void coinsAreHeld(Check c) {
        ForgottenFeast x = Check.of(THREE);
        int most = 999999 - 50;
        Check.on(x, Check.sealed(0, 1, 0, 0, most >> 16, most >> 8 & 255, most & 255, 0, 0, 0, 0, 0, 0, 0, 0, 0));
        c.due("has(8)", x.has(8), most);
        c.due("bribe(2, 1)", x.bribe(2, 1), 99);
        c.due("has(8)", x.has(8), 999999);
        x.undo();
        c.due("has(8)", x.has(8), most);
        c.due("bribe(0, 1)", x.bribe(0, 1), 10);
        c.due("has(8)", x.has(8), most + 10);
    }

    private static void dying(Check c) {
        ForgottenFeast x = Check.of(THREE + "thinks all;");
        c.due("dies(1)", x.dies(1), true);
        c.due("has(2)", x.has(2), 2);
        c.due("dies(1) again", x.dies(1), false);
        c.due("dies(3)", x.dies(3), false);
        c.due("dies(-1)", x.dies(-1), false);
        c.due("status(3)", x.status(3), 3);
        c.due("later(1, 1)", x.later(1, 1), 5);
        c.due("has(11)", x.has(11), 1);
        c.due("undo()", x.undo(), true);
        c.due("has(2)", x.has(2), 3);
        x.bribe(1, 2);
        x.dies(1);
        c.due("his bribes stay", x.has(7), 1);
    }

    private static long x;

    private static int draw(int m) {
        x = (1103515245L * x + 12345L) % (1L << 31);
        return (int) (x / 64 % m);
    }

    private static void chances(Check c) {
        String town = "days 9;";
        for (int i = 0; i < 8; i++) {
            town += "person " + (char) ('a' + i) + " mind 5 asks 1;";
        }
        int[] mortals = {0, 100, 1000, 37};
        for (int seed : new int[] {1, 0, 77, Integer.MAX_VALUE}) {
            for (int mortal : mortals) {
                ForgottenFeast f = Check.of(town + "thinks all;mortal " + mortal + ";");
                c.due("seed", f.seed(seed), true);
                x = seed;
                boolean[] dead = new boolean[8];
                for (int call = 1; call <= 3; call++) {
                    int died = 0;
                    int living = 0;
                    for (int d = 0; d < call; d++) {
                        living = 0;
                        for (int p = 0; p < 8; p++) {
                            if (!dead[p] && draw(1000) < mortal) {
                                dead[p] = true;
                                died++;
                            }
                            living += dead[p] ? 0 : 1;
                        }
                    }
                    c.due("chance(" + call + ")", f.chance(call), died);
                    c.due("how many thought on the last DAY", f.kept(f.has(9) - 1, 2), living);
                    c.due("has(11)", f.has(11), call);
                }
                c.due("has(4)", f.has(4), 6);
                for (int p = 0; p < 8; p++) {
                    c.due("person(" + p + ", 3)", f.person(p, 3), dead[p] ? 1 : 0);
                }
            }
        }
        x = 1;
        int first = draw(1000);
        c.due("as low as mortal: he lives", Check.of("days 9;person a mind 1 asks 1;mortal " + first + ";").chance(1), 0);
        c.due("below mortal: he dies", Check.of("days 9;person a mind 1 asks 1;mortal " + (first + 1) + ";").chance(1), 1);
        ForgottenFeast f = Check.of(town + "mortal 500;");
        for (int n : new int[] {0, -1, 101, Integer.MAX_VALUE}) {
            c.due("chance(" + n + ")", f.chance(n), -1);
        }
        c.due("status(2)", f.status(2), 4);
        f.chance(100);
        c.due("has(3)", f.has(3), 12);
        c.due("undo()", f.undo(), true);
        c.due("has(2)", f.has(2), 8);
        c.due("has(4)", f.has(4), 0);
        c.due("has(9)", f.has(9), 0);
    }

    private static void undoing(Check c) {
        ForgottenFeast f = Check.of(THREE + "told a on 1;thinks told=1;");
        c.due("undo()", f.undo(), false);
        c.due("status(4)", f.status(4), 1);
        int[] first = Check.image(f);
        f.go(5);
        f.tell(1, 2);
        f.bribe(2, 8);
        f.dies(0);
        f.go(20);
        f.go(0);
        c.due("has(11)", f.has(11), 5);
        c.due("undo()", f.undo(), true);
        c.due("has(4)", f.has(4), 5);
        c.due("has(7)", f.has(7), 1);
        c.due("has(9)", f.has(9), 5);
        c.due("has(5)", f.has(5), 2);
        f.undo();
        c.due("has(2)", f.has(2), 3);
        f.undo();
        c.due("has(7)", f.has(7), 0);
        c.due("has(8)", f.has(8), 0);
        f.undo();
        c.due("has(6)", f.has(6), 1);
        c.due("undo()", f.undo(), true);
        c.due("undo()", f.undo(), false);
        int[] last = Check.image(f);
        c.due("length", last.length, first.length);
        for (int i = 0; i < last.length; i++) {
            c.due("octet " + i, last[i], first[i]);
        }
        c.due("has(9)", f.has(9), 0);
        c.due("status(4)", f.status(4), 2);
    }

    private static void twentyActs(Check c) {
        ForgottenFeast f = Check.of("days 90;person a mind 3 asks 1;");
        for (int i = 1; i <= 25; i++) {
            f.go(1);
            c.due("has(11)", f.has(11), Math.min(20, i));
        }
        for (int i = 1; i <= 20; i++) {
            c.due("undo()", f.undo(), true);
            c.due("has(4)", f.has(4), 25 - i);
            c.due("has(9)", f.has(9), 25 - i);
        }
        c.due("undo()", f.undo(), false);
        f.go(3);
        f.go(4);
        c.due("has(4)", f.has(4), 12);
        f.undo();
        c.due("has(4)", f.has(4), 8);
    }

    private static void seeds(Check c) {
        ForgottenFeast f = new ForgottenFeast();
        c.due("seed(0)", f.seed(0), true);
        c.due("seed(MAX)", f.seed(Integer.MAX_VALUE), true);
        c.due("seed(-1)", f.seed(-1), false);
        c.due("seed(MIN)", f.seed(Integer.MIN_VALUE), false);
        c.due("status(5)", f.status(5), 2);
        String town = THREE + "mortal 300;";
        // a refused seed changes nothing; undo leaves the seed where the draws brought it
        ForgottenFeast g = Check.of(town);
        ForgottenFeast h = Check.of(town);
        h.seed(1);
        h.seed(-5);
        for (int i = 0; i < 6; i++) {
            c.due("chance " + i, g.chance(2), h.chance(2));
            if (i % 2 == 0) {
                g.undo();
                h.undo();
            }
        }
        x = 1;
        int[] draws = new int[6];
        for (int i = 0; i < 6; i++) {
            draws[i] = draw(1000);
        }
        ForgottenFeast k = Check.of(town);
        k.chance(1);
        int died = 0;
        for (int i = 0; i < 3; i++) {
            died += draws[i] < 300 ? 1 : 0;
        }
        c.due("died first", 3 - k.has(2), died);
        k.undo();
        died = 0;
        for (int i = 3; i < 6; i++) {
            died += draws[i] < 300 ? 1 : 0;
        }
        c.due("the seed stays behind undo", k.chance(1), died);
    }

    private static void refusals(Check c) {
        ForgottenFeast f = new ForgottenFeast();
        f.end(1);
        f.town();
        f.see();
        f.see();
        f.go(1);
        f.chance(1);
        f.chance(0);
        f.tell(0, 1);
        f.bribe(0, 1);
        f.dies(0);
        f.dies(0);
        f.undo();
        f.undo();
        f.undo();
        f.undo();
        f.undo();
        f.seed(-1);
        f.on();
        f.on();
        f.on();
        f.on();
        f.on();
        int[] due = {1, 3, 3, 4, 5, 6};
        for (int what = 0; what < 6; what++) {
            c.due("status(" + what + ")", f.status(what), due[what]);
        }
        c.due("status(6)", f.status(6), -1);
        c.due("status(-1)", f.status(-1), -1);
        Check.ask(f, "x", 1);
        Check.ask(f, "x", 0);
        f.later(0, 0);
        f.octet(9);
        for (int what = 0; what < 6; what++) {
            c.due("status(" + what + "), nothing more", f.status(what), due[what]);
        }
    }
}
