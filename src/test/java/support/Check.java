import java.nio.charset.StandardCharsets;

/** Counts answers that are not due, and feeds texts to an object. */
final class Check {
    static final int NONE = ForgottenFeast.NONE;
    static final long NOTHING = ForgottenFeast.NOTHING;

    private final String name;
    private int calls;
    private int wrong;

    Check(String name) {
        this.name = name;
    }

    void due(String call, long got, long want) {
        calls++;
        if (got != want) {
            wrong++;
            System.out.println(name + ": " + call + " answered " + got + ", due is " + want);
        }
    }

    void due(String call, boolean got, boolean want) {
        due(call, got ? 1 : 0, want ? 1 : 0);
    }

    /** A TOWN's text with its FAULT and place; 0 and NONE without. */
    void fault(ForgottenFeast x, String text, int fault, int place) {
        int statements = town(x, text);
        due("town of <" + text + ">", statements == NONE, fault != 0);
        due("fault(0) of <" + text + ">", x.fault(0), fault);
        due("fault(1) of <" + text + ">", x.fault(1), place);
    }

    /** A QUESTION's text with its FAULT and place; 0 and NONE without. */
    void askFault(ForgottenFeast x, String text, int fault, int place) {
        long answer = ask(x, text, 1);
        due("ask of <" + text + ">", answer == NOTHING, fault != 0);
        due("fault(0) of <" + text + ">", x.fault(0), fault);
        due("fault(1) of <" + text + ">", x.fault(1), place);
    }

    void close() {
        System.out.println(name + ": " + calls + " answers, " + wrong + " not as due");
        if (wrong != 0 || calls == 0) {
            System.exit(1);
        }
    }

    /** The tape has just these bytes then. */
    static void put(ForgottenFeast x, byte[] bytes) {
        x.end(0);
        for (int from = 0; from < bytes.length; from += 20) {
            int[] n = new int[5];
            for (int i = 0; i < 20; i++) {
                int b = from + i < bytes.length ? bytes[from + i] & 255 : 32;
                n[i / 4] |= b << 24 - 8 * (i % 4);
            }
            x.feed(n[0], n[1], n[2], n[3], n[4]);
        }
        x.end(bytes.length);
    }

    static void put(ForgottenFeast x, String text) {
        put(x, text.getBytes(StandardCharsets.ISO_8859_1));
    }

    static void putBytes(ForgottenFeast x, int... bytes) {
        byte[] b = new byte[bytes.length];
        for (int i = 0; i < b.length; i++) {
            b[i] = (byte) bytes[i];
        }
        put(x, b);
    }

    static int town(ForgottenFeast x, String text) {
        put(x, text);
        return x.town();
    }

    static ForgottenFeast of(String text) {
        ForgottenFeast x = new ForgottenFeast();
        if (town(x, text) == NONE) {
            throw new IllegalStateException("FAULT " + x.fault(0) + " at " + x.fault(1) + " in " + text);
        }
        return x;
    }

    static long ask(ForgottenFeast x, String text, int n) {
        put(x, text);
        return x.ask(n);
    }

    static int see(ForgottenFeast x, int... bytes) {
        putBytes(x, bytes);
        return x.see();
    }

    /** The image as it is now, as bytes without their sign. */
    static int[] image(ForgottenFeast x) {
        int[] image = new int[x.image()];
        for (int i = 0; i < image.length; i++) {
            image[i] = x.octet(i);
        }
        return image;
    }

    /** These bytes with the last one set right. */
    static int[] sealed(int... bytes) {
        int c = 239;
        for (int i = 0; i < bytes.length - 1; i++) {
            c = (3 * c + bytes[i]) % 251;
        }
        int[] sealed = bytes.clone();
        sealed[bytes.length - 1] = c;
        return sealed;
    }

    static boolean on(ForgottenFeast x, int... bytes) {
        putBytes(x, bytes);
        return x.on();
    }
}
