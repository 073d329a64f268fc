/** Texts that many tests begin with. */
final class Texts {
    private Texts() {
    }

    /** PEOPLE a, b, c and so on, who mind 1, 2, 3 and so on, and ask for 10 coins more than that. */
    static String people(int n) {
        StringBuilder t = new StringBuilder();
        for (int p = 0; p < n; p++) {
            t.append("person ").append(name(p)).append(" mind ").append(p + 1).append(" asks ").append(p + 11).append(";");
        }
        return t.toString();
    }

    static String town(int days, int people) {
        return "days " + days + ";" + people(people);
    }

    static char name(int person) {
        return (char) ('a' + person);
    }

    /** As many told off as there is room for: all eight on the first DAYS. */
    static String told(int n) {
        StringBuilder t = new StringBuilder();
        for (int i = 0; i < n; i++) {
            t.append("told ").append(name(i % 8)).append(" on ").append(i / 8 + 1).append(";");
        }
        return t.toString();
    }

    /** Pairs of eight PEOPLE, none twice. */
    static String reminds(int n) {
        StringBuilder t = new StringBuilder();
        for (int i = 0; i < n; i++) {
            t.append("reminds ").append(name(i % 8)).append(" ").append(name((i + 1 + i / 8) % 8)).append(";");
        }
        return t.toString();
    }

    /** Each reminds the one ahead of him, the first one the last. */
    static String ringBackwards(int people) {
        StringBuilder t = new StringBuilder();
        for (int p = 0; p < people; p++) {
            t.append("reminds ").append(name(p)).append(" ").append(name((p + people - 1) % people)).append(";");
        }
        return t.toString();
    }
}
