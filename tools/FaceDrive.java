import java.io.*;
import java.util.*;
public final class FaceDrive {
    public static void main(String[] a) throws Exception {
        BufferedReader in = new BufferedReader(new InputStreamReader(System.in));
        PrintStream out = new PrintStream(new BufferedOutputStream(System.out), false);
        ArrayHouse h = null; String l;
        while ((l = in.readLine()) != null) {
            String[] p = l.split(" ");
            int[] x = new int[6];
            for (int i = 1; i < p.length; i++) x[i - 1] = Integer.parseInt(p[i]);
            int r = 0;
            switch (p[0]) {
                case "NEW": h = new ArrayHouse(); break;
                case "feed": r = h.feed(x[0], x[1], x[2], x[3], x[4]); break;
                case "trim": r = h.trim(x[0]); break;
                case "run": r = h.run(); break;
                case "at": r = h.at(); break;
                case "steps": r = h.steps(); break;
                case "shown": r = h.shown(); break;
                case "byteAt": r = h.byteAt(x[0]); break;
                case "view": r = h.view(); break;
                case "into": r = h.into(x[0]); break;
                case "back": r = h.back(); break;
                case "about": r = h.about(x[0]); break;
                case "extent": r = h.extent(x[0]); break;
                case "kind": r = h.kind(x[0]); break;
                case "number": r = h.number(x[0], x[1] != 0); break;
                case "told": r = h.told(x[0]); break;
                case "forget": r = h.forget(); break;
                case "set": r = h.set(x[0], x[1]); break;
            }
            out.println(r);
        }
        out.flush();
    }
}
