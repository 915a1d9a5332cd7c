import java.nio.charset.StandardCharsets;
import java.util.ArrayList;
import java.util.List;

/** What the project's own tests share: an ArrayHouse that is spoken to in texts, and the counting of what is wrong. */
class House {
    static final int SYNTAX = 1;
    static final int VALUE = 2;
    static final int RANK = 3;
    static final int LENGTH = 4;
    static final int DOMAIN = 5;
    static final int INDEX = 6;
    static final int LIMIT = 7;
    static final int STEPS = 8;

    static int wrong = 0;
    static int checks = 0;

    /** So many bytes are read of one object: beyond 512 calls its answers are free. */
    private static final int READ = 250;

    final ArrayHouse h = new ArrayHouse();
    private final List<String> texts = new ArrayList<>();

    /** Puts a text on THE TAPE. */
    House tape(String text) {
        byte[] bytes = text.getBytes(StandardCharsets.ISO_8859_1);
        int had = h.told(7);
        for (int i = 0; i < bytes.length; i += 20) {
            int[] x = new int[5];
            for (int k = 0; k < 20; k++) {
                int b = i + k < bytes.length ? bytes[i + k] & 255 : 0;
                x[k / 4] = x[k / 4] << 8 | b;
            }
            h.feed(x[0], x[1], x[2], x[3], x[4]);
        }
        h.trim(had + bytes.length);
        return this;
    }

    int run(String text) {
        texts.add(text);
        return tape(text).h.run();
    }

    /** What is SHOWN; of much the later bytes are read of others that were told the same texts. */
    String shown() {
        StringBuilder s = new StringBuilder();
        House x = this;
        int n = h.shown();
        for (int i = 0; i < n; i++) {
            if (i > 0 && i % READ == 0) x = again();
            s.append((char) x.h.byteAt(i));
        }
        return s.toString();
    }

    private House again() {
        House x = new House();
        for (String text : texts) x.run(text);
        return x;
    }

    int view(String name) {
        return tape(name).h.view();
    }

    int forget(String name) {
        return tape(name).h.forget();
    }

    static void due(String what, Object got, Object want) {
        checks++;
        if (got.equals(want)) return;
        wrong++;
        System.out.println(what + ": answered <" + got + ">, due is <" + want + ">");
    }

    /** A text on a new object: its answer 0 and what it shows, values parted by | . */
    static void shows(String text, String want) {
        House x = new House();
        int answer = x.run(text);
        String got = x.shown().replace("\n", "|");
        due(text + "  (answer)", answer, 0);
        due(text, got.isEmpty() ? "" : got.substring(0, got.length() - 1), want);
    }

    /** A text on a new object: its answer (an EVENT, or a FAULT). */
    static void fails(String text, int event) {
        due(text, new House().run(text), event);
    }

    /** A text on a new object: how many STEPS it spends. */
    static void spends(String text, int steps) {
        House x = new House();
        x.run(text);
        due(text + "  (steps)", x.h.steps(), steps);
    }

    /** A text on a new object: its EVENT, or 0, and the STEPS that it spends. */
    static void ends(String text, int event, int steps) {
        House x = new House();
        due(text, x.run(text), event);
        due(text + "  (steps)", x.h.steps(), steps);
    }

    /** A text on a new object that has a FAULT at that place. */
    static void fault(String text, int place) {
        House x = new House();
        due("FAULT " + text, x.run(text), -10 - place);
        due("STEPS of a FAULT " + text, x.h.steps(), 0);
    }

    /** What a text on a new object gives q is EMPTY, with these extents and this FILL (as fmt has it, BOXED). */
    static void empty(String text, String extents, String fill) {
        House x = new House();
        due(text, x.run(text), 0);
        x.view("q");
        due(text + "  (COUNT)", x.h.about(1), 0);
        due(text + "  (extents)", x.run("rho q"), 0);
        due(text + "  (extents)", x.shown(), extents + "\n");
        due(text + "  (FILL)", x.run("enc first q"), 0);
        due(text + "  (FILL)", x.shown(), fill + "\n");
    }

    /** RANK, COUNT, SIZE and DEPTH of what a text on a new object gives q. */
    static void about(String text, int rank, int count, int size, int depth) {
        House x = new House();
        due(text, x.run(text), 0);
        due(text + "  (view)", x.view("q"), rank);
        int[] want = {rank, count, size, depth};
        for (int i = 0; i < want.length; i++) due(text + "  (about " + i + ")", x.h.about(i), want[i]);
    }

    static String many(String s, int n) {
        return s.repeat(n);
    }

    static void end() {
        System.out.println(checks + " checks, " + wrong + " wrong");
        System.exit(wrong == 0 ? 0 : 1);
    }
}
