/** Promises 18 to 23: enough, turnsOf, see, thought, hours, law. */
public final class EnoughTest {
    private static final String FOUR = "days 6;person a mind 3 asks 1;person b mind 5 asks 2;person d mind 7 asks 3;"
        + "person e mind 9 asks 4;";

    public static void main(String[] args) {
        Check c = new Check("EnoughTest");
        enough(c);
        turns(c);
        seeing(c);
        thought(c);
        hours(c);
        law(c);
        c.close();
    }

    private static void enough(Check c) {
        ForgottenFeast x = Check.of(FOUR + "reminds a b;reminds d e;reminds b a;reminds e d;");
        c.due("enough(0)", x.enough(0), 2);
        c.due("the least bits", x.enough(1), 5);
        c.due("enough(2)", x.enough(2), -1);
        c.due("enough(-1)", x.enough(-1), -1);
        x.bribe(1, 1);
        c.due("nobody bribed", x.enough(1), 5);
        x.dies(0);
        c.due("a is dead", x.enough(0), 2);
        c.due("a is dead", x.enough(1), 6);
        x = Check.of(FOUR + "reminds a b;reminds b d;reminds d e;");
        c.due("enough(1)", x.enough(1), 1);
        x.dies(1);
        c.due("who is dead reminds nobody", x.enough(1), 5);
        x.dies(0);
        x.dies(2);
        x.dies(3);
        c.due("nobody lives", x.enough(0), -1);
        x = Check.of(FOUR);
        c.due("all", x.enough(0), 4);
        c.due("all", x.enough(1), 15);
        // hears by told and by the next DAY: b hears on DAY 1 if told off, all on DAY 2
        x = Check.of(FOUR + "reminds a b;reminds a d;reminds a e;hears told=1 or day=2;told b on 1;");
        c.due("DAY 1", x.enough(1), 13);
        x.go(1);
        c.due("DAY 2", x.enough(1), 1);
    }

    private static void turns(Check c) {
        ForgottenFeast x = Check.of(FOUR);
        c.due("told off without thinks: turnsOf(0)", x.turnsOf(0), 0);
        c.due("he is bribed", x.turnsOf(1), 0);
        c.due("both are bribed", x.turnsOf(2), 0);
        c.due("turnsOf(3)", x.turnsOf(3), -1);
        c.due("turnsOf(-1)", x.turnsOf(-1), -1);
        x = Check.of(FOUR + "thinks mind=9 or told=1;");
        c.due("e thinks", x.turnsOf(0), 1);
        c.due("e or who is told", x.turnsOf(1), 1);
        c.due("three of four, two bribed", x.turnsOf(2), 1);
        x.bribe(3, 1);
        x.tell(0, 1);
        c.due("as if nobody were bribed", x.turnsOf(0), 1);
        x.dies(3);
        c.due("e is dead, as if nobody were told off", x.turnsOf(0), 0);
        c.due("turnsOf(1)", x.turnsOf(1), 0);
        // to be told off is bad here: one side has to, the other bribes the last
        x = Check.of("days 5;person a mind 1 asks 1;person b mind 1 asks 1;thinks told=0;");
        c.due("turnsOf(0)", x.turnsOf(0), 1);
        c.due("turnsOf(1)", x.turnsOf(1), 0);
        c.due("turnsOf(2)", x.turnsOf(2), 0);
        x = Check.of("days 5;person a mind 1 asks 1;thinks all;");
        c.due("turnsOf(0)", x.turnsOf(0), 1);
        c.due("turnsOf(1)", x.turnsOf(1), 0);
        c.due("none left to tell or bribe", x.turnsOf(2), 0);
        x = Check.of("days 5;person a mind 1 asks 1;person b mind 2 asks 1;person d mind 3 asks 1;thinks told=1 or mind>1;");
        c.due("turnsOf(1)", x.turnsOf(1), 1);
        c.due("told a: three think, two are bribed", x.turnsOf(2), 1);
        x = Check.of("days 5;person a mind 1 asks 1;person b mind 2 asks 1;thinks told=1;");
        c.due("each who is told is bribed", x.turnsOf(2), 0);
        x.dies(0);
        x.dies(1);
        c.due("nobody lives", x.turnsOf(2), 0);
    }

    private static void seeing(Check c) {
        ForgottenFeast x = Check.of(FOUR);
        c.due("one row", Check.see(x, 0, 1), 1);
        c.due("has(10)", x.has(10), 1);
        c.due("eight rows", Check.see(x, 0, 1, 0, 1, 0, 1, 0, 1, 1, 0, 1, 0, 3, 1, 3, 1), 8);
        c.due("has(10)", x.has(10), 8);
        c.due("nine rows", Check.see(x, 0, 1, 0, 1, 0, 1, 0, 1, 1, 0, 1, 0, 3, 1, 3, 1, 0, 1), -1);
        c.due("none", Check.see(x), -1);
        c.due("half a row", Check.see(x, 0, 1, 0), -1);
        c.due("no such one", Check.see(x, 4, 1), -1);
        c.due("no such one", Check.see(x, 255, 1), -1);
        c.due("neither 1 nor 0", Check.see(x, 0, 2), -1);
        c.due("the second row is wrong", Check.see(x, 0, 1, 1, 255), -1);
        x.dies(0);
        c.due("he is dead", Check.see(x, 0, 1), -1);
        c.due("all stays", x.has(10), 8);
        c.due("status(1)", x.status(1), 8);
        c.due("feed, the tape is gone", x.feed(0, 0, 0, 0, 0), 20);
        x.go(1);
        x.undo();
        c.due("has(10) behind a DAY", x.has(10), 8);
        Check.on(x, Check.image(x));
        c.due("has(10) behind on()", x.has(10), 8);
        Check.town(x, FOUR);
        c.due("has(10) of a new town", x.has(10), 0);
    }

    private static void thought(Check c) {
        ForgottenFeast x = Check.of(FOUR + "reminds a b;reminds b d;");
        c.due("thought(0)", x.thought(0), 16);
        c.due("thought(1)", x.thought(1), 0);
        c.due("thought(2)", x.thought(2), 15);
        c.due("thought(3)", x.thought(3), -1);
        c.due("thought(-1)", x.thought(-1), -1);
        Check.see(x, 2, 1, 1, 0);
        c.due("d alone, or with e", x.thought(0), 2);
        c.due("thought(1)", x.thought(1), 4);
        c.due("thought(2)", x.thought(2), 12);
        Check.see(x, 0, 1);
        c.due("those with a", x.thought(0), 8);
        c.due("thought(1)", x.thought(1), 1);
        c.due("thought(2)", x.thought(2), 15);
        Check.see(x, 0, 1, 1, 0);
        c.due("none", x.thought(0), 0);
        c.due("thought(1)", x.thought(1), 0);
        c.due("thought(2)", x.thought(2), 0);
        Check.see(x, 3, 1, 3, 0);
        c.due("both", x.thought(0), 0);
        Check.see(x, 2, 1);
        x.bribe(1, 1);
        c.due("b is bribed: those with d", x.thought(0), 4);
        c.due("thought(1)", x.thought(1), 4);
        c.due("thought(2)", x.thought(2), 13);
        x.dies(2);
        c.due("d is dead", x.thought(0), 0);
        x.undo();
        x.go(1);
        c.due("b is not bribed for DAY 2", x.thought(0), 14);
    }

    private static void hours(Check c) {
        ForgottenFeast x = Check.of(FOUR + "reminds a b;reminds b d;reminds d e;reminds e a;");
        c.due("hours(1)", x.hours(1), 3);
        c.due("hours(20)", x.hours(20), 60);
        c.due("hours(21)", x.hours(21), -1);
        c.due("hours(0)", x.hours(0), -1);
        c.due("hours(-1)", x.hours(-1), -1);
        x.dies(1);
        c.due("the ring is broken", x.hours(1), -1);
        x.dies(0);
        c.due("d tells e, e nobody", x.hours(1), -1);
        x.dies(2);
        c.due("one alone", x.hours(5), 0);
        x.dies(3);
        c.due("nobody", x.hours(1), -1);
        x = Check.of(FOUR + "reminds a b;reminds b a;reminds a d;reminds d a;reminds a e;reminds e a;");
        c.due("by a", x.hours(2), 4);
        c.due("without a town", new ForgottenFeast().hours(1), -1);
    }

    private static void law(Check c) {
        ForgottenFeast x = Check.of("days 9;person a mind 3 asks 1;person b mind 5 asks 1;thinks told=1 or ago>2;told a on 1;told b on 4;");
        c.due("nothing is KEPT", x.law(0), -1);
        x.go(1);
        c.due("only who is told", x.law(0), 99);
        c.due("law(1)", x.law(1), 0);
        c.due("law(2)", x.law(2), 98);
        c.due("law(3)", x.law(3), -1);
        c.due("law(-1)", x.law(-1), -1);
        // DAY 2 nobody: the FEAST. Had b thought by ago > 0, he would on DAY 2.
        x.go(1);
        c.due("law(1)", x.law(1), 1);
        c.due("law(0)", x.law(0), 98);
        Check.town(x, "days 9;person a mind 3 asks 1;person b mind 5 asks 1;thinks told=1 or ago>2;told a on 2;told b on 1;");
        // thinkers: b, a, then nobody (the FEAST: ago 0), then nobody ...
        x.go(2);
        c.due("DAY 2: a alone, b's ago is 0", x.law(0), 99);
        x.go(1);
        c.due("DAY 3: nobody, b's ago is 1", x.law(1), 1);
        x.go(1);
        c.due("DAY 4: nobody", x.law(1), 2);
        x.go(1);
        c.due("DAY 5: nobody, without a FEAST b's ago would be 3", x.law(1), 3);
        c.due("law(2)", x.law(2), 98);
        c.due("law(0)", x.law(0), 96);
        x.tell(0, 1);
        c.due("told off for DAY 1 by now: two would have thought", x.law(0), 0);
        c.due("law(1)", x.law(1), -1);
        c.due("law(2)", x.law(2), -1);
        Check.town(x, "days 5;person a mind 3 asks 1;person b mind 5 asks 1;told a on 1;");
        x.dies(0);
        x.go(1);
        c.due("nobody is dead in a LAW", x.law(0), 0);
    }
}
