import java.util.ArrayList;
import java.util.Arrays;
import java.util.Collections;
import java.util.List;
import java.util.Random;

/** Runs of calls by a fixed seed, each answer compared with that of Model. */
public final class ModelTest {
    private static final int RUNS = 1500;
    private static final int CALLS = 160;
    private static final int[] FAULTS = new int[6];

    private final Check c;
    private final Random r;
    private final ForgottenFeast x = new ForgottenFeast();
    private final Model m = new Model();
    private final StringBuilder told = new StringBuilder();

    private ModelTest(Check c, long seed) {
        this.c = c;
        this.r = new Random(seed);
    }

    public static void main(String[] args) {
        Check c = new Check("ModelTest");
        int runs = args.length > 0 ? Integer.parseInt(args[0]) : RUNS;
        long from = args.length > 1 ? Long.parseLong(args[1]) : 0;
        for (int i = 0; i < runs; i++) {
            new ModelTest(c, from + i).run(i);
        }
        System.out.println("texts by their FAULT: " + Arrays.toString(FAULTS));
        c.close();
    }

    private void due(String call, long got, long want) {
        c.due(call + (got == want ? "" : " behind" + told), got, want);
    }

    private static long n(boolean b) {
        return b ? 1 : 0;
    }

    private void run(int run) {
        told.append(" run ").append(run);
        if (r.nextInt(10) > 0) {
            town(goodTown());
        }
        for (int i = 0; i < CALLS; i++) {
            m.trim();
            call(r.nextInt(100));
        }
    }

    private void put(byte[] bytes) {
        Check.put(x, bytes);
        m.tape = bytes;
    }

    private static byte[] bytes(String text) {
        return text.getBytes(java.nio.charset.StandardCharsets.ISO_8859_1);
    }

    private void town(String text) {
        byte[] b = bytes(text);
        if (b.length > 1600) {
            b = Arrays.copyOf(b, 1600);
        }
        put(b);
        told.append("\n town <").append(text).append(">");
        due("town()", x.town(), m.town());
        due("fault(0)", x.fault(0), m.faultKind);
        due("fault(1)", x.fault(1), m.faultPlace);
        FAULTS[m.faultKind]++;
    }

    private int some(int... of) {
        return of[r.nextInt(of.length)];
    }

    private int who() {
        return r.nextInt(12) == 0 ? some(-1, 8, m.people(), Integer.MAX_VALUE) : r.nextInt(Math.max(1, m.people()));
    }

    private int when() {
        return r.nextInt(12) == 0 ? some(0, -1, m.has(0) + 1, 91) : 1 + r.nextInt(Math.max(1, m.has(0)));
    }

    private int ahead() {
        return r.nextInt(12) == 0 ? some(0, -1, 121, 120, Integer.MIN_VALUE) : 1 + r.nextInt(r.nextInt(6) == 0 ? 120 : 12);
    }

    private void call(int which) {
        int p = who();
        int d = when();
        int n = ahead();
        int what = r.nextInt(9) - 1;
        if (which < 6) {
            told.append(" go(" + n + ")");
            due("go", x.go(n), m.go(n));
        } else if (which < 14) {
            told.append(" tell(" + p + "," + d + ")");
            due("tell", x.tell(p, d), m.tell(p, d));
        } else if (which < 22) {
            told.append(" bribe(" + p + "," + d + ")");
            due("bribe", x.bribe(p, d), m.bribe(p, d));
        } else if (which < 24) {
            told.append(" dies(" + p + ")");
            due("dies", n(x.dies(p)), n(m.dies(p)));
        } else if (which < 26) {
            int days = r.nextInt(8) == 0 ? some(0, 100, 101, 40) : 1 + r.nextInt(3);
            told.append(" chance(" + days + ")");
            due("chance", x.chance(days), m.chance(days));
        } else if (which < 31) {
            told.append(" undo()");
            due("undo", n(x.undo()), n(m.undo()));
        } else if (which < 32) {
            int seed = r.nextInt();
            told.append(" seed(" + seed + ")");
            due("seed", n(x.seed(seed)), n(m.seed(seed)));
        } else if (which < 34) {
            told.append(" go(200)");
            due("go(200)", x.go(200), m.go(200));
        } else if (which < 38) {
            look();
        } else if (which < 52) {
            due("later(" + n + "," + what + ")", x.later(n, what), m.later(n, what));
            due("hangs(" + n + ")", x.hangs(n), m.hangs(n));
            due("slips(" + n + ")", x.slips(n), m.slips(n));
            due("costs(" + n + ")", x.costs(n), m.costs(n));
        } else if (which < 54) {
            due("first(" + what + ")", x.first(what), m.first(what));
            due("cheapest(" + what + ")", x.cheapest(what), m.cheapest(what));
            int few = Math.min(n, 15);
            due("sure(" + few + ")", x.sure(few), m.sure(few));
        } else if (which < 56) {
            due("enough(" + what + ")", x.enough(what), m.enough(what));
            due("turnsOf(" + (what - 1) + ")", x.turnsOf(what - 1), m.turnsOf(what - 1));
        } else if (which < 60) {
            see();
        } else if (which < 66) {
            due("thought(" + what + ")", x.thought(what), m.thought(what));
            due("hours(" + n + ")", x.hours(n), m.hours(n));
            due("law(" + what + ")", x.law(what), m.law(what));
        } else if (which < 82) {
            ask(n);
        } else if (which < 86) {
            image();
        } else if (which < 88) {
            town(goodTown());
        } else if (which < 91) {
            town(r.nextInt(4) > 0 ? fullTown() : spoilt(fullTown()));
        } else if (which < 96) {
            town(spoilt(goodTown()));
        } else {
            due("person", x.person(p, what), m.person(p, what));
            due("letter", x.letter(p, what), m.letter(p, what));
            due("day", x.day(d, what), m.day(d, what));
            due("kept", x.kept(n - 1, what), m.kept(n - 1, what));
        }
    }

    private void look() {
        for (int what = -1; what <= 12; what++) {
            due("has(" + what + ")", x.has(what), m.has(what));
        }
        for (int k = 0; k < m.has(9); k++) {
            for (int what = 0; what < 4; what++) {
                due("kept(" + k + "," + what + ")", x.kept(k, what), m.kept(k, what));
            }
        }
        for (int p = 0; p < m.people(); p++) {
            for (int what = 0; what < 8; what++) {
                due("person(" + p + "," + what + ")", x.person(p, what), m.person(p, what));
            }
        }
        for (int d = 0; d <= m.has(0) + 1; d++) {
            for (int what = 0; what < 3; what++) {
                due("day(" + d + "," + what + ")", x.day(d, what), m.day(d, what));
            }
        }
        for (int what = 0; what < 6; what++) {
            due("status(" + what + ")", x.status(what) - (what == 0 ? x.status(0) : 0), m.refused[what]);
        }
    }

    private void see() {
        byte[] b = new byte[2 * r.nextInt(4) + (r.nextInt(15) == 0 ? 1 : 0)];
        for (int i = 0; i < b.length; i++) {
            b[i] = (byte) (i % 2 == 0 ? who() : r.nextInt(20) == 0 ? 2 : r.nextInt(2));
        }
        put(b);
        told.append(" see" + Arrays.toString(b));
        due("see()", x.see(), m.see());
        due("has(10)", x.has(10), m.has(10));
        for (int what = 0; what < 3; what++) {
            due("thought(" + what + ")", x.thought(what), m.thought(what));
        }
    }

    private void ask(int n) {
        boolean test = r.nextBoolean();
        String text = test ? new String[] {"first ", "last ", "often "}[r.nextInt(3)] + test(2, QUESTION)
            : new String[] {"total ", "most ", "least "}[r.nextInt(3)] + sum(2, QUESTION);
        if (r.nextInt(5) == 0) {
            text = test ? "often " + deepFact(5 + r.nextInt(3), QUESTION) : "total " + deepPart(5 + r.nextInt(3), QUESTION);
        }
        if (r.nextInt(4) == 0) {
            text = spoilt(text);
        }
        put(bytes(text));
        told.append(" ask(" + n + ") <" + text + ">");
        due("ask", x.ask(n), m.ask(n));
        due("fault(0)", x.fault(0), m.faultKind);
        due("fault(1)", x.fault(1), m.faultPlace);
        FAULTS[m.faultKind]++;
    }

    private void image() {
        due("image()", x.image(), m.image());
        for (int k = -1; k <= m.image.length; k++) {
            due("octet(" + k + ")", x.octet(k), m.octet(k));
        }
        byte[] b = new byte[m.image.length];
        for (int i = 0; i < b.length; i++) {
            b[i] = (byte) m.image[i];
        }
        int changes = r.nextInt(3);
        for (int i = 0; i < changes; i++) {
            b[r.nextInt(b.length)] = (byte) some(0, 1, 2, 3, 5, 8, 90, 99, 100, 255, r.nextInt(256));
        }
        if (r.nextInt(10) == 0) {
            b = Arrays.copyOf(b, Math.max(0, b.length + r.nextInt(5) - 2));
        }
        if (r.nextInt(10) == 0 && b.length > 7) {
            b[0] = 3;
            b[1] = (byte) (231 + r.nextInt(2));
        }
        if (b.length > 0 && r.nextInt(8) > 0) {
            int sum = 239;
            for (int i = 0; i < b.length - 1; i++) {
                sum = (3 * sum + (b[i] & 255)) % 251;
            }
            b[b.length - 1] = (byte) sum;
        }
        put(b);
        told.append(" on" + Arrays.toString(b));
        due("on()", n(x.on()), n(m.on()));
    }

    // ---- texts

    private static final String[] THINKS = {"day", "year", "told", "told", "ago", "ago", "mind", "frost", "feast"};
    private static final String[] HEARS = {"day", "year", "told", "ago", "mind", "mind", "frost", "feast", "other", "other"};
    private static final String[] QUESTION = {"number", "mind", "told", "ago", "dead", "feast", "day", "thinks"};

    private String blank() {
        return r.nextInt(6) == 0 ? " " : r.nextInt(20) == 0 ? "\n " : "";
    }

    private String test(int depth, String[] parts) {
        String t = both(depth, parts);
        while (r.nextInt(3) == 0) {
            t += " or " + both(depth, parts);
        }
        return t;
    }

    private String both(int depth, String[] parts) {
        String t = fact(depth, parts);
        while (r.nextInt(3) == 0) {
            t += " and " + fact(depth, parts);
        }
        return t;
    }

    private String fact(int depth, String[] parts) {
        int k = r.nextInt(12);
        if (depth > 0 && k == 0) {
            return "not " + fact(depth - 1, parts);
        }
        if (depth > 0 && k == 1) {
            return "[" + blank() + test(depth - 1, parts) + blank() + "]";
        }
        if (k == 2) {
            return "all";
        }
        return sum(depth, parts) + blank() + "<>=".charAt(r.nextInt(3)) + blank() + sum(depth, parts);
    }

    private String sum(int depth, String[] parts) {
        String t = product(depth, parts);
        while (r.nextInt(3) == 0) {
            t += blank() + "+-".charAt(r.nextInt(2)) + blank() + product(depth, parts);
        }
        return t;
    }

    private String product(int depth, String[] parts) {
        String t = part(depth, parts);
        while (r.nextInt(4) == 0) {
            t += blank() + "*/".charAt(r.nextInt(2)) + blank() + part(depth, parts);
        }
        return t;
    }

    private String part(int depth, String[] parts) {
        int k = r.nextInt(10);
        if (depth > 0 && k == 0) {
            return "(" + sum(depth - 1, parts) + ")";
        }
        if (depth > 0 && k == 1) {
            return (r.nextBoolean() ? "min" : "max") + blank() + "(" + sum(depth - 1, parts) + "," + sum(depth - 1, parts) + ")";
        }
        if (depth > 0 && k == 2 && parts == QUESTION) {
            return "knows " + part(depth - 1, parts);
        }
        if (k < 6) {
            return "" + (r.nextInt(15) == 0 ? r.nextInt(10000) : r.nextInt(8));
        }
        return parts[r.nextInt(parts.length)];
    }

    private static final String[] NAMES = {"a", "b", "ann", "bob", "zzzzzz", "first", "dayz", "x", "most", "cid"};

    private String goodTown() {
        int people = r.nextInt(9);
        int days = r.nextInt(3) == 0 ? 5 + r.nextInt(86) : 5 + r.nextInt(8);
        StringBuilder t = new StringBuilder("days " + days + ";");
        for (int p = 0; p < people; p++) {
            t.append(blank() + "person " + NAMES[p] + " mind " + (1 + r.nextInt(9)) + " asks " + r.nextInt(100) + ";");
        }
        for (int i = r.nextInt(5); i > 0; i--) {
            String s = new String[] {"slips " + r.nextInt(101), "mortal " + some(0, 5, 50, 300, 1000),
                "frost " + (1 + r.nextInt(days)) + " for " + (1 + r.nextInt(30)), "slips " + r.nextInt(101)}[r.nextInt(4)];
            t.append(s).append(blank()).append(";");
        }
        boolean[] used = new boolean[1000];
        for (int i = r.nextInt(25); i > 0 && people > 0; i--) {
            int p = r.nextInt(people);
            int d = 1 + r.nextInt(days);
            if (!used[d * 10 + p]) {
                used[d * 10 + p] = true;
                t.append("told " + NAMES[p] + " on " + d + ";");
            }
        }
        boolean[] pairs = new boolean[100];
        for (int i = r.nextInt(20); i > 0 && people > 1; i--) {
            int p = r.nextInt(people);
            int q = r.nextInt(people);
            if (p != q && !pairs[p * 10 + q]) {
                pairs[p * 10 + q] = true;
                t.append("reminds " + NAMES[p] + " " + NAMES[q] + ";");
            }
        }
        if (r.nextInt(3) > 0) {
            t.append("thinks " + test(3, THINKS) + ";");
        }
        if (r.nextInt(3) > 0) {
            t.append(blank() + "hears " + test(3, HEARS) + ";");
        }
        return t + blank();
    }

    /** With as many of a kind, or as many open at once, as there is room for, or one less, or one too many. */
    private String fullTown() {
        int most = r.nextInt(3) - 1;
        List<String> statements = new ArrayList<>();
        switch (r.nextInt(6)) {
            case 0: addTold(statements, 30 + most); break;
            case 1: addReminds(statements, 20 + most); break;
            case 2: addTimes(statements, "frost 1 for 2;", 4 + most); break;
            case 3: addTimes(statements, "slips 7;", 61 + most); break;
            case 4: addTimes(statements, "thinks " + test(2, THINKS) + ";", 1 + most); break;
            default: addTimes(statements, "hears " + test(2, HEARS) + ";", 1 + most); break;
        }
        if (r.nextBoolean()) {
            statements.add("thinks " + deepFact(6 + r.nextInt(2), THINKS) + ";");
            statements.add("hears " + deepFact(5, HEARS) + " or " + deepFact(6 + r.nextInt(2), HEARS) + ";");
        }
        Collections.shuffle(statements, r);
        int people = r.nextInt(4) == 0 ? 9 : 8;
        StringBuilder t = new StringBuilder("days " + (5 + r.nextInt(20)) + ";");
        for (int p = 0; p < people; p++) {
            t.append("person " + NAMES[p] + " mind " + (1 + p % 4) + " asks " + p + ";");
        }
        for (String s : statements) {
            t.append(s);
        }
        return t.toString();
    }

    private static void addTimes(List<String> to, String statement, int times) {
        for (int i = 0; i < times; i++) {
            to.add(statement);
        }
    }

    private static void addTold(List<String> to, int times) {
        for (int i = 0; i < times; i++) {
            to.add("told " + NAMES[i % 8] + " on " + (1 + i / 8) + ";");
        }
    }

    private static void addReminds(List<String> to, int times) {
        for (int i = 0; i < times; i++) {
            to.add("reminds " + NAMES[i % 8] + " " + NAMES[(i + 1 + i / 8) % 8] + ";");
        }
    }

    /** A FACT with just so many open at once. */
    private String deepFact(int opened, String[] parts) {
        if (opened == 0) {
            return r.nextBoolean() ? "all" : "day<9";
        }
        switch (r.nextInt(4)) {
            case 0: return "not " + deepFact(opened - 1, parts);
            case 1: return "[" + deepFact(opened - 1, parts) + blank() + " and not not all]";
            case 2: return deepPart(opened, parts) + "<2";
            default: return "not [" + deepFact(Math.max(0, opened - 2), parts) + "]";
        }
    }

    /** A PART with just so many open at once. */
    private String deepPart(int opened, String[] parts) {
        if (opened == 0) {
            return parts[r.nextInt(parts.length)];
        }
        switch (r.nextInt(parts == QUESTION ? 5 : 3)) {
            case 0: return "(1+" + deepPart(opened - 1, parts) + "*2)";
            case 1: return "min(" + deepPart(opened - 1, parts) + ",(3))";
            case 2: return "max" + blank() + "((1)," + deepPart(opened - 1, parts) + ")";
            default: return "knows " + deepPart(opened - 1, parts);
        }
    }

    private static final String[] BITS = {" ", "\n", ";", "(", ")", "[", "]", "not ", "not not not not ", "((((", "[[[", "7",
        "12345", "x", "abcdefg", "reminds", "person ", "days ", "told a on 1;", "reminds a b;", "thinks all;", "hears all;", "=",
        "+", "min", "max(", ",", "knows ", "knows knows ", "other", "year", "0", "99", "#", "A", "\t", "\u00ff", "all ", " and ",
        " or ", "slips 1;slips 1;slips 1;slips 1;slips 1;slips 1;slips 1;slips 1;slips 1;slips 1;slips 1;slips 1;slips 1;slips 1;",
        "frost 1 for 1;frost 1 for 1;", "person q mind 1 asks 1;person r mind 1 asks 1;", "reminds ", "told ", " on ", "first "};

    /** With a piece put in, taken out, or put twice. */
    private String spoilt(String text) {
        String t = text;
        for (int i = 1 + r.nextInt(3); i > 0; i--) {
            int at = r.nextInt(t.length() + 1);
            int to = Math.min(t.length(), at + r.nextInt(r.nextInt(5) == 0 ? 60 : 4));
            int k = r.nextInt(4);
            if (k == 0) {
                t = t.substring(0, at) + t.substring(to);
            } else if (k == 1) {
                t = t.substring(0, to) + t.substring(at);
            } else if (k == 2 && r.nextInt(4) == 0) {
                t = t.substring(0, at);
            } else {
                t = t.substring(0, at) + BITS[r.nextInt(BITS.length)] + t.substring(at);
            }
        }
        return t;
    }
}
