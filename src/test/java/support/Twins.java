import java.util.ArrayList;
import java.util.List;
import java.util.function.Consumer;
import java.util.function.ToLongFunction;

/**
 * Two objects that are called alike, but for one call that only one of them gets:
 * what they answer from then on shows whether that call changed anything.
 */
final class Twins {
    private static final int NOTHING_COUNTED = -1;
    private static final String LATER_TOWN = "days 8;person z mind 3 asks 4;";

    private final Check c;
    private final Consumer<ForgottenFeast> life;

    Twins(Check c, Consumer<ForgottenFeast> life) {
        this.c = c;
        this.life = life;
    }

    /** A refused call: its answer, one more in this row of status, and nothing else. */
    void refused(String name, ToLongFunction<ForgottenFeast> call, long answer, int counted) {
        run(name, call, null, answer, counted, false);
    }

    /** A call that has nothing to tell: its answer, and nothing changes, status neither. */
    void untold(String name, ToLongFunction<ForgottenFeast> call) {
        run(name, call, null, Check.NONE, NOTHING_COUNTED, false);
    }

    /** A refused call that reads these bytes: the tape goes, too. */
    void refusedTape(String name, byte[] tape, ToLongFunction<ForgottenFeast> call, long answer, int counted) {
        run(name, call, tape, answer, counted, false);
    }

    /** A refused call that reads these bytes and finds a FAULT in them, which is told by fault(). */
    void refusedText(String name, String text, ToLongFunction<ForgottenFeast> call, long answer, int counted) {
        run(name, call, text.getBytes(java.nio.charset.StandardCharsets.ISO_8859_1), answer, counted, true);
    }

    private void run(String name, ToLongFunction<ForgottenFeast> call, byte[] tape, long answer, int counted, boolean faulty) {
        ForgottenFeast x = new ForgottenFeast();
        ForgottenFeast y = new ForgottenFeast();
        life.accept(x);
        life.accept(y);
        if (tape != null) {
            Check.put(x, tape);
            y.end(0);
        } else {
            Check.put(x, LATER_TOWN);
            Check.put(y, LATER_TOWN);
        }
        c.due(name, call.applyAsLong(x), answer);
        for (int what = 0; what < 6; what++) {
            c.due(name + ": status(" + what + ")", x.status(what), y.status(what) + (what == counted ? 1 : 0));
        }
        if (!faulty) {
            c.due(name + ": fault(0)", x.fault(0), y.fault(0));
            c.due(name + ": fault(1)", x.fault(1), y.fault(1));
        }
        List<Long> ofX = new ArrayList<>();
        List<Long> ofY = new ArrayList<>();
        tell(x, ofX);
        tell(y, ofY);
        c.due(name + ": how much there is to tell", ofX.size(), ofY.size());
        for (int i = 0; i < Math.min(ofX.size(), ofY.size()); i++) {
            c.due(name + ": all else, answer " + i, ofX.get(i), ofY.get(i));
        }
    }

    /** All that can be told of it, down to the seed, what can be undone and what is on the tape. */
    private static void tell(ForgottenFeast x, List<Long> all) {
        image(x, all);
        x.image();
        image(x, all);
        for (int what = 0; what < 12; what++) {
            all.add((long) x.has(what));
        }
        for (int p = 0; p < x.has(1); p++) {
            for (int k = 0; k < 7; k++) {
                all.add((long) x.letter(p, k) + 100L * x.person(p, k));
            }
        }
        for (int d = 1; d <= x.has(0); d++) {
            all.add(x.day(d, 0) + 1000L * x.day(d, 1) + 1000000L * x.day(d, 2));
        }
        for (int k = 0; k < x.has(9); k++) {
            all.add(x.kept(k, 0) + 1000L * x.kept(k, 1) + 1000000L * x.kept(k, 2) + 1000000000L * x.kept(k, 3));
        }
        for (int what = 0; what < 3; what++) {
            all.add((long) x.thought(what));
            all.add((long) x.law(what));
            all.add((long) x.first(what));
            all.add((long) x.later(what + 1, 1));
        }
        all.add((long) x.chance(3));
        for (int i = 0; i <= 20; i++) {
            x.image();
            all.add((long) x.octet(x.image() - 1));
            all.add((long) x.has(9));
            all.add(x.undo() ? 1L : 0L);
        }
        // blanks behind a text change nothing in it
        all.add((long) x.feed(0x20202020, 0x20202020, 0x20202020, 0x20202020, 0x20202020));
        all.add((long) x.town());
        all.add((long) x.has(0));
        all.add((long) x.has(1));
        all.add((long) x.fault(1));
    }

    private static void image(ForgottenFeast x, List<Long> all) {
        for (int k = 0; x.octet(k) != Check.NONE; k++) {
            all.add((long) x.octet(k));
        }
    }
}
