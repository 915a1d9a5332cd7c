import java.io.*;
import java.util.*;
public final class Drive {
    static ArrayHouse h;
    static void tape(byte[] b) {
        h.trim(0);
        for (int i = 0; i < b.length; i += 20) {
            int[] x = new int[5];
            for (int k = 0; k < 20; k++) { int c = i + k < b.length ? b[i + k] & 255 : 0; x[k / 4] = x[k / 4] << 8 | c; }
            h.feed(x[0], x[1], x[2], x[3], x[4]);
        }
        h.trim(b.length);
    }
    static void dump(StringBuilder s) {
        s.append('[');
        int r = h.about(0);
        for (int k = 0; k < r; k++) { if (k > 0) s.append(','); s.append(h.extent(k)); }
        s.append(']');
        int n = h.about(1);
        for (int i = 0; i < n; i++) {
            if (i > 0) s.append(' ');
            int k = h.kind(i);
            if (k == 0) s.append(h.number(i, false)).append('/').append(h.number(i, true));
            else if (k == 1) s.append('s').append(h.number(i, false));
            else { s.append('<'); h.into(i); dump(s); h.back(); s.append('>'); }
        }
        s.append('|').append('s').append(h.about(2)).append(" d").append(h.about(3)).append(" l").append(h.about(4)).append(" f");
        int k = h.kind(-1);
        s.append(k == 0 ? "n" + h.number(-1, false) : k == 1 ? "s" + h.number(-1, false) : "b");
    }
    public static void main(String[] a) throws Exception {
        BufferedReader in = new BufferedReader(new InputStreamReader(System.in));
        PrintStream out = new PrintStream(new BufferedOutputStream(System.out), false);
        String l;
        int calls = 0;
        while ((l = in.readLine()) != null) {
            if (l.equals("NEW")) { h = new ArrayHouse(); continue; }
            if (l.startsWith("SET")) { String[] p = l.split(" "); out.println("set " + h.set(Integer.parseInt(p[1]), Integer.parseInt(p[2]))); continue; }
            String[] p = l.split(" ", 2);
            String hex = p.length > 1 ? p[1] : "";
            byte[] b = new byte[hex.length() / 2];
            for (int i = 0; i < b.length; i++) b[i] = (byte) Integer.parseInt(hex.substring(2 * i, 2 * i + 2), 16);
            tape(b);
            StringBuilder s = new StringBuilder();
            try {
            int r = h.run();
            s.append("run ").append(r).append(' ').append(h.at()).append(' ').append(h.steps()).append(' ');
            for (int i = 0; i < h.shown(); i++) { String x = Integer.toHexString(h.byteAt(i)); s.append(x.length() < 2 ? "0" + x : x); }
            s.append(' ');
            for (int i = 0; i < 8; i++) s.append(h.told(i)).append(',');
            for (char c : "xyzfgabw".toCharArray()) {
                tape(new byte[]{(byte) c});
                int v = h.view();
                s.append(' ').append(c).append(v);
                if (v >= 0) dump(s);
            }
            } catch (Throwable t) { s.append(" THROWN " + t + " " + t.getStackTrace()[0]); t.printStackTrace(); }
            out.println(s);
        }
        out.flush();
    }
}
