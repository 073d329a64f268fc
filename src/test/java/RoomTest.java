import java.lang.reflect.Array;
import java.lang.reflect.Field;
import java.lang.reflect.Modifier;
import java.util.ArrayDeque;
import java.util.Collections;
import java.util.Deque;
import java.util.IdentityHashMap;
import java.util.Random;
import java.util.Set;

/** Rules 7 and 12: no call ever throws, whatever it is given; an object takes little room, and no more as it is used. */
public final class RoomTest {
    private static final int[] EDGES = {Integer.MIN_VALUE, -1, 0, 1, 2, 3, 4, 5, 6, 7, 8, 9, 12, 19, 20, 21, 30, 60, 61, 89, 90,
        91, 100, 101, 120, 121, 200, 201, 1600, 1601, Integer.MAX_VALUE};

    public static void main(String[] args) throws Exception {
        Check c = new Check("RoomTest");
        anyCalls(c);
        room(c);
        longTexts(c);
        c.close();
    }

    private static void anyCalls(Check c) {
        Random r = new Random(5);
        for (int run = 0; run < 300; run++) {
            ForgottenFeast x = new ForgottenFeast();
            int calls = 0;
            try {
                for (calls = 0; calls < 512; calls++) {
                    call(x, r);
                }
            } catch (RuntimeException | StackOverflowError e) {
                System.out.println("run " + run + ": " + e);
            }
            c.due("calls that came back", calls, 512);
        }
    }

    private static int any(Random r) {
        return r.nextInt(8) == 0 ? r.nextInt() : EDGES[r.nextInt(EDGES.length)];
    }

    private static void call(ForgottenFeast x, Random r) {
        int a = any(r);
        int b = any(r);
        switch (r.nextInt(36)) {
            case 0: x.feed(r.nextInt(), r.nextInt(), any(r), any(r), r.nextInt()); break;
            case 1: x.end(a); break;
            case 2: x.town(); break;
            case 3: x.fault(a); break;
            case 4: x.has(a); break;
            case 5: x.letter(a, b); break;
            case 6: x.person(a, b); break;
            case 7: x.day(a, b); break;
            case 8: x.kept(a, b); break;
            case 9: x.later(a, b); break;
            case 10: x.first(a); break;
            case 11: x.hangs(a); break;
            case 12: x.sure(a); break;
            case 13: x.slips(a); break;
            case 14: x.costs(a); break;
            case 15: x.cheapest(a); break;
            case 16: x.enough(a); break;
            case 17: x.turnsOf(a); break;
            case 18: x.see(); break;
            case 19: x.thought(a); break;
            case 20: x.hours(a); break;
            case 21: x.law(a); break;
            case 22: x.go(a); break;
            case 23: x.tell(a, b); break;
            case 24: x.bribe(a, b); break;
            case 25: x.dies(a); break;
            case 26: x.chance(a); break;
            case 27: x.undo(); break;
            case 28: x.seed(a); break;
            case 29: x.ask(a); break;
            case 30: x.image(); break;
            case 31: x.octet(a); break;
            case 32: x.on(); break;
            case 33: x.status(a); break;
            case 34: Check.ask(x, "total knows number+mind*ago", a); break;
            default: fresh(x, r); break;
        }
    }

    private static void fresh(ForgottenFeast x, Random r) {
        if (r.nextInt(3) == 0) {
            Check.on(x, Check.image(x));
        } else if (r.nextInt(3) == 0) {
            Check.see(x, r.nextInt(3), r.nextInt(2));
        } else {
            Check.town(x, "days " + (5 + r.nextInt(86)) + ";person a mind 3 asks 2;person b mind 5 asks 9;reminds a b;"
                + "thinks ago>" + r.nextInt(4) + " or told=1;hears other*9999<day+year;mortal " + r.nextInt(900) + ";");
        }
    }

    /** Objects with arrays, and fields with elements, that are there because of x. */
    private static int[] roomOf(Object x) throws Exception {
        Set<Object> met = Collections.newSetFromMap(new IdentityHashMap<>());
        Deque<Object> open = new ArrayDeque<>();
        open.add(x);
        met.add(x);
        int elements = 0;
        while (!open.isEmpty()) {
            Object o = open.poll();
            if (o.getClass().isArray()) {
                elements += Array.getLength(o);
                for (int i = 0; !o.getClass().getComponentType().isPrimitive() && i < Array.getLength(o); i++) {
                    meet(Array.get(o, i), met, open);
                }
                continue;
            }
            for (Field f : o.getClass().getDeclaredFields()) {
                if (!Modifier.isStatic(f.getModifiers())) {
                    elements++;
                    f.setAccessible(true);
                    if (!f.getType().isPrimitive()) {
                        meet(f.get(o), met, open);
                    }
                }
            }
        }
        return new int[] {met.size(), elements};
    }

    private static void meet(Object o, Set<Object> met, Deque<Object> open) {
        if (o != null && met.add(o)) {
            open.add(o);
        }
    }

    private static void room(Check c) throws Exception {
        ForgottenFeast x = new ForgottenFeast();
        int[] first = roomOf(x);
        System.out.println("a new object: " + first[0] + " objects, " + first[1] + " elements");
        c.due("a new object is small", first[0] < 80 && first[1] < 7000, true);
        Random r = new Random(7);
        for (int i = 0; i < 512; i++) {
            call(x, r);
        }
        int[] last = roomOf(x);
        System.out.println("a used object: " + last[0] + " objects, " + last[1] + " elements");
        c.due("a used object is small", last[0] < 300 && last[1] < 20000, true);
    }

    /** The longest rules that go on the tape. */
    private static void longTexts(Check c) {
        StringBuilder t = new StringBuilder("days 5;person a mind 3 asks 1;thinks 1");
        while (t.length() + 2 + 3 <= 1600) {
            t.append("+1");
        }
        int sum = (t.length() - t.indexOf("thinks 1") - "thinks ".length() + 1) / 2;
        ForgottenFeast x = new ForgottenFeast();
        c.due("town()", Check.town(x, t + "=0;"), 3);
        c.due("later(1, 0)", x.later(1, 0), 0);
        StringBuilder q = new StringBuilder("total 1");
        while (q.length() + 2 <= 1600) {
            q.append("+1");
        }
        c.due("ask(1)", Check.ask(x, q.toString(), 1), (q.length() - 6 + 1) / 2);
        c.due("sum", sum > 700, true);
        StringBuilder deep = new StringBuilder("first ");
        for (int i = 0; i < 500; i++) {
            deep.append("[(");
        }
        c.askFault(x, deep.toString(), 1, 8);
        StringBuilder nots = new StringBuilder("first ");
        for (int i = 0; i < 390; i++) {
            nots.append("not ");
        }
        c.askFault(x, nots.toString(), 4, 30);
        StringBuilder opens = new StringBuilder("total ");
        for (int i = 0; i < 1500; i++) {
            opens.append("(");
        }
        c.askFault(x, opens.toString(), 4, 12);
        c.askFault(x, "total 1+" + "2*3-1+max(1,(2+3)*4)".repeat(60), 1, 28);
    }
}
