import java.nio.charset.StandardCharsets;

/** What the project's own tests share: an ArrayHouse that is spoken to in texts, and the counting of what is wrong. */
final class House {
    static int wrong = 0;
    static int checks = 0;

    final ArrayHouse h = new ArrayHouse();

    /** Puts a text on THE TAPE. */
    House tape(String text) {
        byte[] bytes = text.getBytes(StandardCharsets.ISO_8859_1);
        int had = h.told(7);
        for (int i = 0; i < bytes.length; i += 20) {
            int[] x = new int[5];
            for (int k = 0; k < 20; k++) {
                int b = i + k < bytes.length ? bytes[i + k] & 255 : 0;
                x[k / 4] = x[k / 4] << 8 | b;
            }
            h.feed(x[0], x[1], x[2], x[3], x[4]);
        }
        h.trim(had + bytes.length);
        return this;
    }

    int run(String text) {
        return tape(text).h.run();
    }

    String shown() {
        StringBuilder s = new StringBuilder();
        for (int i = 0; i < h.shown(); i++) s.append((char) h.byteAt(i));
        return s.toString();
    }

    int view(String name) {
        return tape(name).h.view();
    }

    int forget(String name) {
        return tape(name).h.forget();
    }

    static void due(String what, Object got, Object want) {
        checks++;
        if (got.equals(want)) return;
        wrong++;
        System.out.println(what + ": answered <" + got + ">, due is <" + want + ">");
    }

    /** A text on a new object: its answer 0 and what it shows, values parted by | . */
    static void shows(String text, String want) {
        House x = new House();
        int answer = x.run(text);
        String got = x.shown().replace("\n", "|");
        due(text + "  (answer)", answer, 0);
        due(text, got.isEmpty() ? "" : got.substring(0, got.length() - 1), want);
    }

    /** A text on a new object: its answer (an EVENT, or a FAULT). */
    static void fails(String text, int event) {
        due(text, new House().run(text), event);
    }

    /** A text on a new object: how many STEPS it spends. */
    static void spends(String text, int steps) {
        House x = new House();
        x.run(text);
        due(text + "  (steps)", x.h.steps(), steps);
    }

    static void end() {
        System.out.println(checks + " checks, " + wrong + " wrong");
        System.exit(wrong == 0 ? 0 : 1);
    }
}
