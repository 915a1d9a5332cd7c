/** Promises 1 to 18, call by call. */
public final class FaceTest {
    public static void main(String[] args) {
        House.due("NONE", ArrayHouse.NONE, -1);
        House x = new House();
        House.due("tape", x.h.told(7), 0);
        House.due("origin", x.h.told(5), 1);
        House.due("link", x.h.told(6), 1);
        House.due("run", x.run("1 2 + 3"), 0);
        House.due("shown", x.shown(), "4 5\n");
        House.end();
    }
}
