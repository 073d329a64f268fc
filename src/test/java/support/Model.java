import java.util.ArrayList;
import java.util.HashMap;
import java.util.HashSet;
import java.util.List;
import java.util.Map;
import java.util.Set;
import java.util.TreeSet;
import java.util.function.IntPredicate;

/**
 * The document once more, written as plainly as can be and for no speed, to compare with:
 * trees for texts, sets of pairs for rosters, each thing worked out from its own words.
 */
final class Model {
    static final class Fault extends RuntimeException {
        final int kind;
        final int place;

        Fault(int kind, int place) {
            super(null, null, false, false);
            this.kind = kind;
            this.place = place;
        }
    }

    interface Num {
        long of(Map<String, Integer> parts);
    }

    interface Test {
        boolean of(Map<String, Integer> parts);
    }

    static final class Town {
        int days;
        int statements;
        final List<String> names = new ArrayList<>();
        final List<Integer> minds = new ArrayList<>();
        final List<Integer> asks = new ArrayList<>();
        final Set<String> told = new HashSet<>();
        final Set<String> reminds = new HashSet<>();
        final List<int[]> frosts = new ArrayList<>();
        Test thinks;
        Test hears;
        int slips;
        int mortal;
    }

    static final class State {
        int year = 1;
        int day;
        int feast;
        int coins;
        int[] ago = new int[0];
        Set<Integer> dead = new HashSet<>();
        TreeSet<Integer> told = new TreeSet<>();
        TreeSet<Integer> bribes = new TreeSet<>();
        List<int[]> kept = new ArrayList<>();

        State copy() {
            State s = new State();
            s.year = year;
            s.day = day;
            s.feast = feast;
            s.coins = coins;
            s.ago = ago.clone();
            s.dead.addAll(dead);
            s.told.addAll(told);
            s.bribes.addAll(bribes);
            s.kept.addAll(kept);
            return s;
        }
    }

    /** What one DAY was like. */
    static final class Came {
        Set<Integer> selves;
        Set<Integer> thinkers;
        boolean feast;
    }

    byte[] tape = new byte[0];
    Town town;
    State now = new State();
    List<State> past = new ArrayList<>();
    List<int[]> seen = new ArrayList<>();
    int[] refused = new int[6];
    int faultKind;
    int faultPlace = -1;
    long x = 1;
    int[] image = new int[0];

    // ---- texts

    static final Set<String> OWN = Set.of("days", "person", "mind", "asks", "told", "on", "reminds", "frost", "for", "thinks",
        "hears", "slips", "mortal", "day", "year", "ago", "feast", "other", "number", "dead", "knows", "or", "and", "not",
        "all", "min", "max");

    /** Reads straight from the bytes, without tokens. */
    static final class Text {
        final byte[] b;
        int at;
        int open;
        Set<String> parts;

        Text(byte[] b) {
            this.b = b;
        }

        boolean letter(int i) {
            return i < b.length && b[i] >= 'a' && b[i] <= 'z';
        }

        boolean digit(int i) {
            return i < b.length && b[i] >= '0' && b[i] <= '9';
        }

        void blanks() {
            while (at < b.length && (b[at] == 10 || b[at] == 32)) {
                at++;
            }
        }

        /** The word that begins here, or nothing; it has to be apart from what is ahead of it. */
        String word() {
            blanks();
            if (at > 0 && digit(at - 1) && letter(at)) {
                return "";
            }
            int to = at;
            while (letter(to)) {
                to++;
            }
            return new String(b, at, to - at);
        }

        Fault wrong() {
            blanks();
            return new Fault(1, at);
        }

        boolean isSign(char c) {
            blanks();
            return at < b.length && b[at] == c;
        }

        void sign(char c) {
            if (!isSign(c)) {
                throw wrong();
            }
            at++;
        }

        void word(String w) {
            if (!word().equals(w)) {
                throw wrong();
            }
            at += w.length();
        }

        int number(int least, int most) {
            blanks();
            if (!digit(at) || at > 0 && letter(at - 1)) {
                throw wrong();
            }
            int to = at;
            int n = 0;
            while (digit(to)) {
                if (to - at == 4) {
                    throw new Fault(1, to);
                }
                n = 10 * n + b[to] - '0';
                to++;
            }
            if (n < least || n > most) {
                throw new Fault(2, at);
            }
            at = to;
            return n;
        }

        String name() {
            String w = word();
            if (w.isEmpty() || OWN.contains(w)) {
                throw wrong();
            }
            if (w.length() > 6) {
                throw new Fault(1, at + 6);
            }
            return w;
        }

        void opens(int length) {
            if (open == 6) {
                throw new Fault(4, at);
            }
            open++;
            at += length;
        }

        Test test() {
            Test one = both();
            while (word().equals("or")) {
                at += 2;
                Test left = one;
                Test right = both();
                one = p -> left.of(p) | right.of(p);
            }
            return one;
        }

        Test both() {
            Test one = fact();
            while (word().equals("and")) {
                at += 3;
                Test left = one;
                Test right = fact();
                one = p -> left.of(p) & right.of(p);
            }
            return one;
        }

        Test fact() {
            String w = word();
            if (w.equals("not")) {
                opens(3);
                Test inner = fact();
                open--;
                return p -> !inner.of(p);
            }
            if (w.equals("all")) {
                at += 3;
                return p -> true;
            }
            if (isSign('[')) {
                opens(1);
                Test inner = test();
                sign(']');
                open--;
                return inner;
            }
            Num left = sum();
            blanks();
            if (!isSign('<') && !isSign('>') && !isSign('=')) {
                throw wrong();
            }
            char sign = (char) b[at++];
            Num right = sum();
            return p -> sign == '<' ? left.of(p) < right.of(p)
                : sign == '>' ? left.of(p) > right.of(p) : left.of(p) == right.of(p);
        }

        static long held(long v) {
            return v > 1000000 ? 1000000 : v < -1000000 ? -1000000 : v;
        }

        Num sum() {
            Num one = product();
            while (isSign('+') || isSign('-')) {
                boolean plus = b[at++] == '+';
                Num left = one;
                Num right = product();
                one = p -> held(plus ? left.of(p) + right.of(p) : left.of(p) - right.of(p));
            }
            return one;
        }

        Num product() {
            Num one = part();
            while (isSign('*') || isSign('/')) {
                boolean times = b[at++] == '*';
                Num left = one;
                Num right = part();
                one = p -> {
                    long l = left.of(p);
                    long r = right.of(p);
                    if (times) {
                        return held(l * r);
                    }
                    if (r == 0) {
                        return 0;
                    }
                    return (long) Math.floor((double) l / (double) r);
                };
            }
            return one;
        }

        Num part() {
            blanks();
            if (isSign('(')) {
                opens(1);
                Num inner = sum();
                sign(')');
                open--;
                return inner;
            }
            String w = word();
            if (w.equals("min") || w.equals("max")) {
                at += 3;
                if (!isSign('(')) {
                    throw wrong();
                }
                opens(1);
                Num left = sum();
                sign(',');
                Num right = sum();
                sign(')');
                open--;
                return w.equals("min") ? p -> Math.min(left.of(p), right.of(p)) : p -> Math.max(left.of(p), right.of(p));
            }
            if (w.equals("knows") && parts.contains("knows")) {
                opens(5);
                Num inner = part();
                open--;
                return p -> p.getOrDefault("knows " + inner.of(p), 0);
            }
            if (!w.isEmpty()) {
                if (!parts.contains(w)) {
                    throw wrong();
                }
                at += w.length();
                return p -> p.get(w);
            }
            int n = number(0, 9999);
            return p -> n;
        }
    }

    static Town read(byte[] bytes) {
        Text t = new Text(bytes);
        Town town = new Town();
        int[] counts = new int[4];
        while (true) {
            t.blanks();
            if (t.at == bytes.length) {
                break;
            }
            int start = t.at;
            if (town.statements == 70) {
                throw new Fault(5, start);
            }
            String w = t.word();
            if (town.statements == 0 != w.equals("days")) {
                throw t.wrong();
            }
            int kind = List.of("person", "told", "reminds", "frost").indexOf(w);
            if (kind >= 0 && counts[kind]++ == new int[] {8, 30, 20, 4}[kind]
                || w.equals("thinks") && town.thinks != null || w.equals("hears") && town.hears != null) {
                throw new Fault(5, start);
            }
            if (w.isEmpty()) {
                throw t.wrong();
            }
            t.at += w.length();
            statement(t, town, w, start);
            t.sign(';');
            town.statements++;
        }
        if (town.statements == 0) {
            throw new Fault(1, bytes.length);
        }
        return town;
    }

    private static void statement(Text t, Town town, String w, int start) {
        switch (w) {
            case "days" -> town.days = t.number(5, 90);
            case "person" -> {
                String name = t.name();
                if (town.names.contains(name)) {
                    throw new Fault(3, t.at);
                }
                t.at += name.length();
                t.word("mind");
                int mind = t.number(1, 99);
                t.word("asks");
                int asks = t.number(0, 99);
                town.names.add(name);
                town.minds.add(mind);
                town.asks.add(asks);
            }
            case "told" -> {
                int p = known(t, town);
                t.word("on");
                t.blanks();
                int place = t.at;
                int day = t.number(1, town.days);
                if (!town.told.add(day + " " + p)) {
                    throw new Fault(2, place);
                }
            }
            case "reminds" -> {
                int p = known(t, town);
                t.blanks();
                int place = t.at;
                int q = known(t, town);
                if (p == q || !town.reminds.add(p + " " + q)) {
                    throw new Fault(3, place);
                }
            }
            case "frost" -> {
                int from = t.number(1, town.days);
                t.word("for");
                town.frosts.add(new int[] {from, t.number(1, 30)});
            }
            case "thinks" -> {
                t.parts = Set.of("day", "year", "told", "ago", "mind", "frost", "feast");
                town.thinks = t.test();
            }
            case "hears" -> {
                t.parts = Set.of("day", "year", "told", "ago", "mind", "frost", "feast", "other");
                town.hears = t.test();
            }
            case "slips" -> town.slips = t.number(0, 100);
            case "mortal" -> town.mortal = t.number(0, 1000);
            default -> throw new Fault(1, start);
        }
    }

    private static int known(Text t, Town town) {
        String name = t.name();
        int p = town.names.indexOf(name);
        if (p < 0) {
            throw new Fault(3, t.at);
        }
        t.at += name.length();
        return p;
    }

    // ---- days

    int people() {
        return town == null ? 0 : town.names.size();
    }

    boolean reminds(int p, int q) {
        return town.reminds.contains(p + " " + q);
    }

    boolean frost(int day) {
        for (int[] f : town.frosts) {
            if (day >= f[0] && day < f[0] + f[1]) {
                return true;
            }
        }
        return false;
    }

    static int key(int day, int person) {
        return day * 10 + person;
    }

    static int bits(Set<Integer> set) {
        int bits = 0;
        for (int p : set) {
            bits |= 1 << p;
        }
        return bits;
    }

    Set<Integer> living() {
        Set<Integer> set = new TreeSet<>();
        for (int p = 0; p < people(); p++) {
            if (!now.dead.contains(p)) {
                set.add(p);
            }
        }
        return set;
    }

    static boolean dayLeft(Town town, State s) {
        return town != null && !(s.year == 999 && s.day == town.days);
    }

    /** The next DAY comes to s; selves, if given, are those who think of themselves, whatever the rules say. */
    Came come(State s, IntPredicate selves) {
        if (s.day == town.days) {
            s.year++;
            s.day = 1;
            s.feast = 0;
        } else {
            s.day++;
        }
        Came came = new Came();
        came.selves = new TreeSet<>();
        for (int p = 0; p < people(); p++) {
            if (!can(s, p)) {
                continue;
            }
            boolean told = s.told.contains(key(s.day, p));
            boolean thinks = selves != null ? selves.test(p)
                : town.thinks == null ? told : town.thinks.of(partsOf(s, p, told));
            if (thinks) {
                came.selves.add(p);
            }
        }
        came.thinkers = new TreeSet<>(came.selves);
        boolean more = true;
        while (more) {
            more = false;
            for (int p = 0; p < people(); p++) {
                if (can(s, p) && !came.thinkers.contains(p)) {
                    for (int q : came.thinkers) {
                        if (reminds(q, p)) {
                            Map<String, Integer> parts = partsOf(s, p, s.told.contains(key(s.day, p)));
                            parts.put("other", town.minds.get(q));
                            if (town.hears == null || town.hears.of(parts)) {
                                came.thinkers.add(p);
                                more = true;
                            }
                            break;
                        }
                    }
                }
            }
        }
        came.feast = s.feast == 0 && came.thinkers.isEmpty();
        for (int p = 0; p < people(); p++) {
            s.ago[p] = came.feast || came.thinkers.contains(p) ? 0 : Math.min(99, s.ago[p] + 1);
        }
        if (came.feast) {
            s.feast = s.day;
        }
        int day = s.day;
        s.bribes.removeIf(k -> k / 10 == day);
        return came;
    }

    boolean can(State s, int p) {
        return !s.dead.contains(p) && !s.bribes.contains(key(s.day, p));
    }

    Map<String, Integer> partsOf(State s, int p, boolean told) {
        Map<String, Integer> parts = new HashMap<>();
        parts.put("day", s.day);
        parts.put("year", s.year);
        parts.put("told", told ? 1 : 0);
        parts.put("ago", s.ago[p]);
        parts.put("mind", town.minds.get(p));
        parts.put("frost", frost(s.day) ? 1 : 0);
        parts.put("feast", s.feast != 0 ? 1 : 0);
        return parts;
    }

    /** The state ahead of the n-th DAY AHEAD, null if it can't be. */
    State aheadOf(int n) {
        if (n < 1 || n > 120 || town == null) {
            return null;
        }
        State s = now.copy();
        for (int i = 1; i <= n; i++) {
            if (!dayLeft(town, s)) {
                return null;
            }
            if (i < n) {
                come(s, null);
            }
        }
        return s;
    }

    int nextDay(State s) {
        return s.day == town.days ? 1 : s.day + 1;
    }

    // ---- calls

    int refuse(int k) {
        refused[k]++;
        return -1;
    }

    int town() {
        byte[] text = tape;
        tape = new byte[0];
        try {
            town = read(text);
        } catch (Fault f) {
            faultKind = f.kind;
            faultPlace = f.place;
            return refuse(1);
        }
        faultKind = 0;
        faultPlace = -1;
        now = new State();
        now.ago = new int[people()];
        for (String t : town.told) {
            String[] w = t.split(" ");
            now.told.add(key(Integer.parseInt(w[0]), Integer.parseInt(w[1])));
        }
        past.clear();
        seen.clear();
        return town.statements;
    }

    int has(int what) {
        return switch (what) {
            case 0 -> town == null ? 0 : town.days;
            case 1 -> people();
            case 2 -> living().size();
            case 3 -> now.year;
            case 4 -> now.day;
            case 5 -> now.feast;
            case 6 -> now.told.size();
            case 7 -> now.bribes.size();
            case 8 -> now.coins;
            case 9 -> Math.min(60, now.kept.size());
            case 10 -> seen.size();
            case 11 -> Math.min(20, past.size());
            default -> -1;
        };
    }

    int letter(int p, int k) {
        if (p < 0 || p >= people() || k < 0 || k > 5) {
            return -1;
        }
        String name = town.names.get(p);
        return k < name.length() ? name.charAt(k) - 'a' + 1 : 0;
    }

    int person(int p, int what) {
        if (p < 0 || p >= people()) {
            return -1;
        }
        Set<Integer> whom = new TreeSet<>();
        Set<Integer> by = new TreeSet<>();
        for (int q = 0; q < people(); q++) {
            if (reminds(p, q)) {
                whom.add(q);
            }
            if (reminds(q, p)) {
                by.add(q);
            }
        }
        return switch (what) {
            case 0 -> town.minds.get(p);
            case 1 -> town.asks.get(p);
            case 2 -> now.ago[p];
            case 3 -> now.dead.contains(p) ? 1 : 0;
            case 4 -> bits(whom);
            case 5 -> bits(by);
            case 6 -> (int) now.told.stream().filter(k -> k % 10 == p).count();
            default -> -1;
        };
    }

    int day(int day, int what) {
        if (town == null || day < 1 || day > town.days) {
            return -1;
        }
        int bits = 0;
        for (int p = 0; p < 8; p++) {
            if ((what == 0 ? now.told : now.bribes).contains(key(day, p))) {
                bits |= 1 << p;
            }
        }
        return what == 0 || what == 1 ? bits : what == 2 ? (frost(day) ? 1 : 0) : -1;
    }

    int kept(int k, int what) {
        if (k < 0 || k >= has(9) || what < 0 || what > 3) {
            return -1;
        }
        return now.kept.get(now.kept.size() - has(9) + k)[what];
    }

    int later(int n, int what) {
        State s = aheadOf(n);
        if (s == null) {
            return -1;
        }
        Came came = come(s, null);
        return switch (what) {
            case 0 -> bits(came.selves);
            case 1 -> bits(came.thinkers);
            case 2 -> s.year;
            case 3 -> s.day;
            case 4 -> came.feast ? 1 : 0;
            default -> -1;
        };
    }

    int first(int what) {
        if (what != 0 && what != 1) {
            return -1;
        }
        State s = now.copy();
        for (int n = 1; n <= 120 && dayLeft(town, s); n++) {
            Came came = come(s, null);
            if (what == 0 ? came.feast : came.thinkers.size() == 1) {
                return n;
            }
        }
        return -1;
    }

    int hangs(int n) {
        State s = aheadOf(n);
        if (s == null) {
            return -1;
        }
        if (come(s.copy(), null).thinkers.isEmpty()) {
            return 0;
        }
        Set<Integer> on = new TreeSet<>();
        for (int p = 0; p < people(); p++) {
            State t = s.copy();
            t.bribes.add(key(nextDay(s), p));
            if (come(t, null).thinkers.isEmpty()) {
                on.add(p);
            }
        }
        return bits(on);
    }

    int sure(int n) {
        if (aheadOf(n) == null) {
            return -1;
        }
        int count = 0;
        for (int i = 1; i <= n; i++) {
            if (later(i, 1) != 0 && hangs(i) == 0) {
                count++;
            }
        }
        return count;
    }

    int slips(int n) {
        State s = aheadOf(n);
        if (s == null) {
            return -1;
        }
        int k = come(s, null).selves.size();
        java.math.BigInteger top = java.math.BigInteger.valueOf(town.slips).pow(k).multiply(java.math.BigInteger.valueOf(1000000));
        return top.divide(java.math.BigInteger.valueOf(100).pow(k)).intValue();
    }

    int costs(int n) {
        State s = aheadOf(n);
        if (s == null) {
            return -1;
        }
        return come(s, null).selves.stream().mapToInt(p -> town.asks.get(p)).sum();
    }

    int cheapest(int what) {
        if (what != 0 && what != 1 || now.feast != 0) {
            return -1;
        }
        int best = -1;
        int day = -1;
        for (int n = 1; n <= 120; n++) {
            if (later(n, 2) != now.year) {
                break;
            }
            int cost = costs(n);
            if (best == -1 || cost < best) {
                best = cost;
                day = later(n, 3);
            }
            if (later(n, 4) == 1) {
                break;
            }
        }
        return what == 0 ? day : best;
    }

    int enough(int what) {
        if (what != 0 && what != 1 || !dayLeft(town, now) || living().isEmpty()) {
            return -1;
        }
        for (int size = 0; size <= 8; size++) {
            for (int set = 0; set < 256; set++) {
                int bits = set;
                if (Integer.bitCount(set) == size && (set & ~bits(living())) == 0) {
                    State s = now.copy();
                    s.bribes.clear();
                    if (come(s, p -> (bits >> p & 1) == 1).thinkers.equals(living())) {
                        return what == 0 ? size : set;
                    }
                }
            }
        }
        throw new IllegalStateException();
    }

    int turnsOf(int n) {
        if (n < 0 || n > 2 || !dayLeft(town, now)) {
            return -1;
        }
        State s = now.copy();
        int day = nextDay(s);
        s.told.removeIf(k -> k / 10 == day);
        s.bribes.removeIf(k -> k / 10 == day);
        return round(s, n, day) ? 1 : 0;
    }

    private boolean round(State s, int n, int day) {
        if (n == 0) {
            return !come(s.copy(), null).thinkers.isEmpty();
        }
        boolean best = false;
        for (State told : with(s, true, day)) {
            boolean worst = true;
            for (State bribed : with(told, false, day)) {
                worst &= round(bribed, n - 1, day);
            }
            best |= worst;
        }
        return best;
    }

    private List<State> with(State s, boolean tell, int day) {
        List<State> list = new ArrayList<>();
        for (int p : living()) {
            State t = s.copy();
            if ((tell ? t.told : t.bribes).add(key(day, p))) {
                list.add(t);
            }
        }
        if (list.isEmpty()) {
            list.add(s);
        }
        return list;
    }

    int see() {
        byte[] b = tape;
        tape = new byte[0];
        if (b.length == 0 || b.length % 2 == 1 || b.length > 16) {
            return refuse(1);
        }
        List<int[]> rows = new ArrayList<>();
        for (int i = 0; i < b.length; i += 2) {
            if (!living().contains(b[i] & 255) || b[i + 1] != 0 && b[i + 1] != 1) {
                return refuse(1);
            }
            rows.add(new int[] {b[i], b[i + 1]});
        }
        seen = rows;
        return rows.size();
    }

    int thought(int what) {
        if (what < 0 || what > 2 || !dayLeft(town, now)) {
            return -1;
        }
        int count = 0;
        int all = 255;
        int some = 0;
        for (int set = 0; set < 256; set++) {
            int bits = set;
            Came came = come(now.copy(), p -> (bits >> p & 1) == 1);
            if (bits(came.selves) != set) {
                continue;
            }
            boolean as = true;
            for (int[] row : seen) {
                as &= came.thinkers.contains(row[0]) == (row[1] == 1);
            }
            if (as) {
                count++;
                all &= set;
                some |= set;
            }
        }
        return what == 0 ? count : count == 0 ? 0 : what == 1 ? all : some;
    }

    int hours(int n) {
        if (n < 1 || n > 20 || living().isEmpty()) {
            return -1;
        }
        int[][] d = new int[8][8];
        for (int p : living()) {
            for (int q : living()) {
                d[p][q] = p == q ? 0 : reminds(p, q) ? 1 : 1000;
            }
        }
        for (int k : living()) {
            for (int p : living()) {
                for (int q : living()) {
                    d[p][q] = Math.min(d[p][q], d[p][k] + d[k][q]);
                }
            }
        }
        int most = 0;
        for (int p : living()) {
            for (int q : living()) {
                most = Math.max(most, d[p][q]);
            }
        }
        return most >= 1000 ? -1 : n * most;
    }

    int law(int what) {
        if (what < 0 || what > 2 || now.kept.isEmpty()) {
            return -1;
        }
        List<Integer> laws = new ArrayList<>();
        for (int t = 0; t <= 98; t++) {
            int[] ago = new int[8];
            boolean fits = true;
            for (int k = 0; k < has(9); k++) {
                int count = 0;
                for (int p = 0; p < people(); p++) {
                    boolean thinks = now.told.contains(key(kept(k, 1), p)) || ago[p] > t;
                    count += thinks ? 1 : 0;
                    ago[p] = thinks ? 0 : Math.min(99, ago[p] + 1);
                }
                fits &= count == kept(k, 2);
            }
            if (fits) {
                laws.add(t);
            }
        }
        return what == 0 ? laws.size() : laws.isEmpty() ? -1 : what == 1 ? laws.get(0) : laws.get(laws.size() - 1);
    }

    private boolean daysCan(int n) {
        return town != null && (long) now.year * town.days + now.day + n <= 1000L * town.days;
    }

    int go(int n) {
        if (n < 1 || n > 200 || !daysCan(n)) {
            return refuse(2);
        }
        past.add(now.copy());
        int feasts = 0;
        for (int i = 0; i < n; i++) {
            feasts += live();
        }
        return feasts;
    }

    private int live() {
        Came came = come(now, null);
        now.kept.add(new int[] {now.year, now.day, came.thinkers.size(), came.feast ? 1 : 0});
        return came.feast ? 1 : 0;
    }

    int tell(int p, int day) {
        if (p < 0 || p >= people() || day < 1 || day > town.days) {
            return refuse(3);
        }
        if (now.told.contains(key(day, p))) {
            past.add(now.copy());
            now.told.remove(key(day, p));
            return 0;
        }
        if (now.told.size() == 30) {
            return refuse(3);
        }
        past.add(now.copy());
        now.told.add(key(day, p));
        return 1;
    }

    int bribe(int p, int day) {
        if (p < 0 || p >= people() || day < 1 || day > town.days || day <= now.day || now.dead.contains(p)
            || now.bribes.contains(key(day, p)) || now.bribes.size() == 30) {
            return refuse(3);
        }
        past.add(now.copy());
        now.bribes.add(key(day, p));
        now.coins = Math.min(999999, now.coins + town.asks.get(p));
        return town.asks.get(p);
    }

    boolean dies(int p) {
        if (!living().contains(p)) {
            refuse(3);
            return false;
        }
        past.add(now.copy());
        now.dead.add(p);
        return true;
    }

    int chance(int n) {
        if (n < 1 || n > 100 || !daysCan(n)) {
            return refuse(2);
        }
        past.add(now.copy());
        int died = 0;
        for (int i = 0; i < n; i++) {
            for (int p : living()) {
                x = (1103515245L * x + 12345L) % (1L << 31);
                if (x / 64 % 1000 < town.mortal) {
                    now.dead.add(p);
                    died++;
                }
            }
            live();
        }
        return died;
    }

    boolean undo() {
        if (has(11) == 0) {
            refuse(4);
            return false;
        }
        now = past.remove(past.size() - 1);
        undone++;
        return true;
    }

    /** No more than the last 20 are kept. */
    void trim() {
        while (past.size() > 20) {
            past.remove(0);
        }
    }

    int undone;

    boolean seed(int seed) {
        if (seed < 0) {
            refuse(5);
            return false;
        }
        x = seed;
        return true;
    }

    long ask(int n) {
        byte[] text = tape;
        tape = new byte[0];
        State s = aheadOf(n);
        if (s == null) {
            return ForgottenFeast.NOTHING;
        }
        Text t = new Text(text);
        t.parts = Set.of("number", "mind", "told", "ago", "dead", "feast", "day", "thinks", "knows");
        String w;
        Test test = null;
        Num sum = null;
        try {
            w = t.word();
            if (!Set.of("first", "last", "often", "total", "most", "least").contains(w)) {
                throw t.wrong();
            }
            t.at += w.length();
            if (Set.of("first", "last", "often").contains(w)) {
                test = t.test();
            } else {
                sum = t.sum();
            }
            t.blanks();
            if (t.at < text.length) {
                throw t.wrong();
            }
        } catch (Fault f) {
            faultKind = f.kind;
            faultPlace = f.place;
            return ForgottenFeast.NOTHING;
        }
        faultKind = 0;
        faultPlace = -1;
        Came came = come(s, null);
        List<Long> values = new ArrayList<>();
        List<Integer> holds = new ArrayList<>();
        for (int p = 0; p < people(); p++) {
            Map<String, Integer> parts = new HashMap<>();
            parts.put("number", p);
            parts.put("mind", town.minds.get(p));
            parts.put("told", s.told.contains(key(s.day, p)) ? 1 : 0);
            parts.put("ago", s.ago[p]);
            parts.put("dead", s.dead.contains(p) ? 1 : 0);
            parts.put("feast", came.feast ? 1 : 0);
            parts.put("day", s.day);
            parts.put("thinks", came.thinkers.contains(p) ? 1 : 0);
            for (int q = 0; q < people(); q++) {
                parts.put("knows " + q, reminds(q, p) ? 1 : 0);
            }
            if (test != null && test.of(parts)) {
                holds.add(p);
            }
            if (sum != null) {
                values.add(sum.of(parts));
            }
        }
        return switch (w) {
            case "first" -> holds.isEmpty() ? -1 : holds.get(0);
            case "last" -> holds.isEmpty() ? -1 : holds.get(holds.size() - 1);
            case "often" -> holds.size();
            case "total" -> values.stream().mapToLong(v -> v).sum();
            case "most" -> values.stream().mapToLong(v -> v).max().orElse(0);
            default -> values.stream().mapToLong(v -> v).min().orElse(0);
        };
    }

    int image() {
        List<Integer> b = new ArrayList<>(List.of(now.year / 256, now.year % 256, now.day, now.feast,
            now.coins / 65536, now.coins / 256 % 256, now.coins % 256));
        for (int p = 0; p < people(); p++) {
            b.add(now.ago[p]);
            b.add(now.dead.contains(p) ? 1 : 0);
        }
        for (TreeSet<Integer> list : List.of(now.told, now.bribes)) {
            b.add(list.size());
            for (int k : list) {
                b.add(k / 10);
                b.add(k % 10);
            }
        }
        b.add(check(b));
        image = b.stream().mapToInt(i -> i).toArray();
        return image.length;
    }

    private static int check(List<Integer> b) {
        int c = 239;
        for (int i : b) {
            c = (3 * c + i) % 251;
        }
        return c;
    }

    int octet(int k) {
        return k < 0 || k >= image.length ? -1 : image[k];
    }

    boolean on() {
        byte[] b = tape;
        tape = new byte[0];
        State s = town == null ? null : stateOf(b);
        if (s == null) {
            refuse(5);
            return false;
        }
        now = s;
        past.clear();
        return true;
    }

    /** Reads what may be one, writes it again, and looks whether the bytes are the same. */
    private State stateOf(byte[] b) {
        java.util.PrimitiveIterator.OfInt in = java.util.stream.IntStream.range(0, b.length).map(i -> b[i] & 255).iterator();
        State s = new State();
        try {
            s.year = in.nextInt() * 256 + in.nextInt();
            s.day = in.nextInt();
            s.feast = in.nextInt();
            s.coins = in.nextInt() * 65536 + in.nextInt() * 256 + in.nextInt();
            s.ago = new int[people()];
            for (int p = 0; p < people(); p++) {
                s.ago[p] = in.nextInt();
                if (s.ago[p] > 99) {
                    return null;
                }
                if (in.nextInt() == 1) {
                    s.dead.add(p);
                }
            }
            for (TreeSet<Integer> list : List.of(s.told, s.bribes)) {
                int count = in.nextInt();
                if (count > 30) {
                    return null;
                }
                for (int i = 0; i < count; i++) {
                    int day = in.nextInt();
                    int p = in.nextInt();
                    if (day < 1 || day > town.days || p >= people() || list == s.bribes && day <= s.day) {
                        return null;
                    }
                    list.add(key(day, p));
                }
            }
        } catch (java.util.NoSuchElementException e) {
            return null;
        }
        if (s.year < 1 || s.year > 999 || s.day > town.days || s.day == 0 && s.year > 1 || s.feast > s.day || s.coins > 999999) {
            return null;
        }
        State keep = now;
        int[] keepImage = image;
        now = s;
        image();
        boolean same = image.length == b.length;
        for (int i = 0; same && i < b.length; i++) {
            same = image[i] == (b[i] & 255);
        }
        now = keep;
        image = keepImage;
        return same ? s : null;
    }
}
