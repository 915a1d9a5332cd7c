/** Promises 1 to 18, call by call: ordinary inputs, the edges, wrong inputs. */
public final class FaceTest {
    public static void main(String[] args) {
        promise1();
        promises2and3();
        promise4();
        promises5to8();
        promise9();
        promises10and11();
        promise12();
        promises13to15();
        promise16();
        promise17();
        promise18();
        House.end();
    }

    private static void due(String what, int got, int want) {
        House.due(what, got, want);
    }

    private static void promise1() {
        due("NONE", ArrayHouse.NONE, -1);
        ArrayHouse h = new ArrayHouse();
        int[] told = {0, 0, 0, 0, 0, 1, 1, 0};
        for (int i = 0; i < told.length; i++) due("new: told(" + i + ")", h.told(i), told[i]);
        due("new: at", h.at(), -1);
        due("new: steps", h.steps(), 0);
        due("new: shown", h.shown(), 0);
        due("new: byteAt", h.byteAt(0), -1);
        due("new: about", h.about(0), -1);
        due("new: back", h.back(), -1);
        due("new: run of nothing", h.run(), 0);
    }

    private static void promises2and3() {
        ArrayHouse h = new ArrayHouse();
        due("feed", h.feed(0x31202B20, 0x32000000, 0, 0, 0), 20);
        due("trim above", h.trim(21), -1);
        due("trim below", h.trim(-1), -1);
        due("trim", h.trim(5), 5);
        due("told 7", h.told(7), 5);
        due("run", h.run(), 0);
        due("shown", h.shown(), 2);
        due("byte", h.byteAt(0), '3');
        due("the tape is empty", h.told(7), 0);
        due("trim 0 of 0", h.trim(0), 0);
        due("trim 1 of 0", h.trim(1), -1);
        for (int i = 1; i <= 200; i++) due("feed", h.feed(0, 0, 0, 0, 0), 20 * i);
        due("feed beyond", h.feed(0, 0, 0, 0, 0), -1);
        due("tape", h.told(7), 4000);
        due("trim to 3981", h.trim(3981), 3981);
        due("feed would pass", h.feed(1, 2, 3, 4, 5), -1);
        due("trim to 3980", h.trim(3980), 3980);
        due("feed fits", h.feed(1, 2, 3, 4, 5), 4000);
        due("bytes 0 are a FAULT", h.run(), -10);
        // the highest byte of a number may be above 127
        due("feed", h.feed(0x31C80000, 0, 0, 0, 0), 20);
        h.trim(2);
        due("a byte above 126", h.run(), -11);
    }

    private static void promise4() {
        House x = new House();
        due("run", x.run("x := 1 2 3 ; x"), 0);
        House.due("shown", x.shown(), "1 2 3\n");
        due("view", x.view("x"), 1);
        due("a FAULT", x.run("x ; 1 ) 2"), -16);
        due("nothing SHOWN", x.h.shown(), 0);
        due("no VIEW", x.h.about(0), -1);
        due("no at", x.h.at(), -1);
        due("no steps", x.h.steps(), 0);
        due("an EVENT", x.run("x ; 5 ; 1 + 'a' ; 6"), 5);
        House.due("what was SHOWN ahead stays", x.shown(), "1 2 3\n5\n");
        due("at", x.h.at(), 2);
        due("EMPTY ones count", x.run(";\n; 1 ; # nothing ; here\n ; nope"), 2);
        due("at", x.h.at(), 6);
        due("without an event", x.run("x"), 0);
        due("at", x.h.at(), -1);
        due("an EMPTY text", x.run(""), 0);
        due("steps", x.h.steps(), 0);
        due("only a comment", x.run("# ( [ {"), 0);
        due("what the HOUSE means stays", x.run("x + 1"), 0);
        House.due("shown", x.shown(), "2 3 4\n");
        due("values in two NAMES", x.run("y := (1 2) 'ab' (enc 3 4) ; z := y ; w := y y ; f := +/ ; g := f\""), 0);
        due("values in two NAMES", x.run("big := iota 1000"), 0);
        due("values in two NAMES", x.run("z match y ; w match y z ; z ; g (1 2) (3 4)"), 0);
        House.due("shown", x.shown(), "1\n1\n(1 2) (ab) ((3 4))\n3 7\n");
    }

    private static void promises5to8() {
        House x = new House();
        due("run", x.run("x := 2 3 rho iota 6 ; +/x ; +/[1] x"), 0);
        due("steps", x.h.steps(), 99);
        due("shown", x.h.shown(), 11);
        due("byteAt(4)", x.h.byteAt(4), 10);
        due("byteAt(10)", x.h.byteAt(10), 10);
        due("byteAt(11)", x.h.byteAt(11), -1);
        due("byteAt(-1)", x.h.byteAt(-1), -1);
        due("big", x.run("y := 1000 rho 1r2 ; y ; y ; y"), 0);
        due("8000 are SHOWN", x.h.shown(), 8000);
        due("the last of them", x.h.byteAt(7999), 10);
        due("the one ahead", x.h.byteAt(7998), '2');
        due("beyond", x.h.byteAt(8000), -1);
        due("steps that are spent", x.run("{1 + right} pow 2000000000 0"), 8);
        due("steps", x.h.steps(), 39998);
        due("an EMPTY value is SHOWN", x.run("''"), 0);
        House.due("shown", x.shown(), "\n");
    }

    private static void promise9() {
        House x = new House();
        x.run("x := 2 3 rho 1 ; f := + ; long4567 := 7");
        due("view x", x.view("x"), 2);
        due("tape", x.h.told(7), 0);
        due("view long4567", x.view("long4567"), 0);
        due("value", x.h.number(0, false), 7);
        due("view f", x.view("f"), -2);
        due("no VIEW", x.h.about(0), -1);
        x.view("x");
        due("view nothing", x.view("y"), -1);
        due("no VIEW", x.h.about(0), -1);
        for (String wrong : new String[] {"", " x", "x ", "X", "long45678", "x y", "1", "rho", "left", "x\n", "xx"}) {
            x.view("x");
            due("view <" + wrong + ">", x.view(wrong), -1);
            due("tape", x.h.told(7), 0);
            due("no VIEW behind it", x.h.about(0), -1);
        }
    }

    private static void promises10and11() {
        House x = new House();
        x.run("y := (1 (2 'ab')) 3 'c' ; e := 0 rho enc 1 2 ; s := enc enc 1 2");
        due("view", x.view("y"), 1);
        due("back of none", x.h.back(), -1);
        due("into a NUMBER", x.h.into(1), -1);
        due("into a SIGN", x.h.into(2), -1);
        due("into none", x.h.into(3), -1);
        due("into -1", x.h.into(-1), -1);
        due("it stays", x.h.about(1), 3);
        due("into", x.h.into(0), 1);
        due("into", x.h.into(1), 1);
        due("into", x.h.into(1), 1);
        due("led", x.h.about(5), 3);
        due("sign", x.h.number(1, false), 'b');
        due("into", x.h.into(0), -1);
        due("back", x.h.back(), 1);
        due("back", x.h.back(), 1);
        due("back", x.h.back(), 1);
        due("back", x.h.back(), -1);
        due("count", x.h.about(1), 3);
        due("led", x.h.about(5), 0);
        x.view("e");
        due("into an EMPTY one's FILL", x.h.into(0), -1);
        due("into -1", x.h.into(-1), -1);
        due("RANK 0 with a BOX", x.view("s"), 0);
        due("into", x.h.into(0), 0);
        due("into", x.h.into(0), 1);
        due("into", x.h.into(0), -1);
        due("about 5", x.h.about(5), 2);
        x.run("d := enc enc enc enc enc enc enc , 7");
        due("view", x.view("d"), 0);
        for (int i = 1; i <= 7; i++) due("into", x.h.into(0), i < 7 ? 0 : 1);
        due("led", x.h.about(5), 7);
        due("item", x.h.number(0, false), 7);
        due("into", x.h.into(0), -1);
        for (int i = 1; i <= 7; i++) due("back", x.h.back(), 0);
        due("back", x.h.back(), -1);
        x.run("");
        due("into without a VIEW", x.h.into(0), -1);
        due("back without a VIEW", x.h.back(), -1);
    }

    private static void about(String text, int rank, int count, int size, int depth, int lane) {
        House x = new House();
        x.run("x := " + text);
        due(text + " view", x.view("x"), rank);
        due(text + " about 0", x.h.about(0), rank);
        due(text + " about 1", x.h.about(1), count);
        due(text + " about 2", x.h.about(2), size);
        due(text + " about 3", x.h.about(3), depth);
        due(text + " about 4", x.h.about(4), lane);
        due(text + " about 5", x.h.about(5), 0);
        due(text + " about 6", x.h.about(6), -1);
        due(text + " about -1", x.h.about(-1), -1);
    }

    private static void promise12() {
        about("5", 0, 1, 1, 0, 2);
        about("1 0 1", 1, 3, 3, 1, 1);
        about("_1 0", 1, 2, 2, 1, 2);
        about("127 _128", 1, 2, 2, 1, 2);
        about("128 0", 1, 2, 2, 1, 3);
        about("_129 0", 1, 2, 2, 1, 3);
        about("32767 _32768", 1, 2, 2, 1, 3);
        about("32768 0", 1, 2, 2, 1, 4);
        about("_32769", 0, 1, 1, 0, 4);
        about("1 1r2", 1, 2, 2, 1, 5);
        about("'ab'", 1, 2, 2, 1, 6);
        about("'a' 1", 1, 2, 2, 1, 7);
        about("'a' 1r2", 1, 2, 2, 1, 7);
        about("1 (2 3)", 1, 2, 4, 2, 8);
        about("enc enc 1 2", 0, 1, 4, 3, 8);
        about("''", 1, 0, 0, 1, 6);
        about("0 rho 0", 1, 0, 0, 1, 1);
        about("0 rho enc 1 2", 1, 0, 3, 2, 8);
        about("2 0 3 rho 1", 3, 0, 0, 1, 1);
        about("2 0 3 rho 'a'", 3, 0, 0, 1, 6);
    }

    private static void promises13to15() {
        House x = new House();
        due("extent without a VIEW", x.h.extent(0), -1);
        due("kind without a VIEW", x.h.kind(0), -1);
        due("kind -1 without a VIEW", x.h.kind(-1), -1);
        due("number without a VIEW", x.h.number(0, false), 0);
        x.run("x := 2 3 rho _1r2 'a' (1 2) ; z := 0 4 rho '' ; n := 3r4 ; b := (1 2) 3 ; e := 0 rho enc 1 2");
        x.view("x");
        due("extent 0", x.h.extent(0), 2);
        due("extent 1", x.h.extent(1), 3);
        due("extent 2", x.h.extent(2), -1);
        due("extent -1", x.h.extent(-1), -1);
        due("kind 0", x.h.kind(0), 0);
        due("kind 1", x.h.kind(1), 1);
        due("kind 2", x.h.kind(2), 2);
        due("kind 6", x.h.kind(6), -1);
        due("kind -1", x.h.kind(-1), 0);
        due("kind -2", x.h.kind(-2), -1);
        due("n", x.h.number(3, false), -1);
        due("d", x.h.number(3, true), 2);
        due("sign", x.h.number(4, false), 'a');
        due("sign", x.h.number(4, true), 'a');
        due("box", x.h.number(5, false), 0);
        due("box", x.h.number(5, true), 0);
        due("none", x.h.number(6, true), 0);
        due("none", x.h.number(-2, true), 0);
        due("FILL", x.h.number(-1, false), 0);
        due("FILL", x.h.number(-1, true), 1);
        x.view("z");
        due("extent of an EMPTY one", x.h.extent(1), 4);
        due("kind of none", x.h.kind(0), -1);
        due("FILL", x.h.kind(-1), 1);
        due("FILL", x.h.number(-1, false), 32);
        due("FILL", x.h.number(-1, true), 32);
        x.view("n");
        due("extent of RANK 0", x.h.extent(0), -1);
        due("n", x.h.number(0, false), 3);
        due("d", x.h.number(0, true), 4);
        x.view("b");
        due("FILL is a BOX", x.h.kind(-1), 2);
        due("FILL", x.h.number(-1, true), 0);
        x.view("e");
        due("FILL is a BOX", x.h.kind(-1), 2);
        due("FILL", x.h.number(-1, false), 0);
        due("no item", x.h.number(0, true), 0);
    }

    private static void promise16() {
        House x = new House();
        x.run("x := 1 (2 3) ; y := 'abc' ; f := { right + 1 } ; g :=  f  ; h := ,[ 1 ] / # over\n; x");
        int[] told = {5, 2, 3, 13 + 1 + 8, 7, 1, 1, 0};
        for (int i = 0; i < told.length; i++) due("told(" + i + ")", x.h.told(i), told[i]);
        due("told(8)", x.h.told(8), -1);
        due("told(-1)", x.h.told(-1), -1);
        x.run("f := + ; ? 5 ; y := 1");
        due("texts", x.h.told(3), 10);
        due("SIZES", x.h.told(4), 5);
        due("LINK", x.h.told(6), 16807);
        x.tape("abc");
        due("tape", x.h.told(7), 3);
    }

    private static void promise17() {
        House x = new House();
        x.run("x := 1 2 ; f := + ; y := 3");
        x.view("y");
        due("forget nothing", x.forget("z"), -1);
        due("tape", x.h.told(7), 0);
        due("the VIEW stays", x.h.number(0, false), 3);
        due("forget wrong", x.forget("y "), -1);
        due("forget none", x.forget(""), -1);
        due("forget a WORD", x.forget("rho"), -1);
        due("the VIEW stays", x.h.about(0), 0);
        due("forget x", x.forget("x"), 1);
        due("no VIEW", x.h.about(0), -1);
        due("NAMES", x.h.told(0), 2);
        due("forget x", x.forget("x"), -1);
        due("forget f", x.forget("f"), 2);
        due("texts", x.h.told(3), 0);
        due("it means nothing", x.run("x"), 2);
        due("it means nothing", x.run("1 f 2"), 2);
        due("y is there", x.run("y"), 0);
        StringBuilder many = new StringBuilder();
        for (int i = 0; i < 59; i++) many.append("n").append(i).append(" := ").append(i).append(" ; ");
        due("60 NAMES", x.run(many.toString()), 0);
        due("one more", x.run("x := 1"), 7);
        due("one that is there", x.run("n7 := 8"), 0);
        due("forget one", x.forget("n58"), 1);
        due("room again", x.run("x := 1"), 0);
    }

    private static void promise18() {
        House x = new House();
        due("ORIGIN", x.h.set(0, 0), 1);
        due("ORIGIN", x.h.told(5), 0);
        due("ORIGIN", x.h.set(0, 2), -1);
        due("ORIGIN", x.h.set(0, -1), -1);
        x.run("iota 3");
        House.due("shown", x.shown(), "0 1 2\n");
        due("ORIGIN", x.h.set(0, 1), 0);
        due("LINK", x.h.set(1, 5), 1);
        due("LINK", x.h.told(6), 5);
        due("LINK", x.h.set(1, 0), -1);
        due("LINK", x.h.set(1, 2147483647), -1);
        due("LINK", x.h.set(1, 2147483646), 5);
        due("another", x.h.set(2, 1), -1);
        due("another", x.h.set(-1, 1), -1);
        x.run("? 10");
        due("LINK goes on", x.h.told(6), (int) (16807L * 2147483646L % 2147483647L));
        House.due("shown", x.shown(), (1 + 16807L * 2147483646L % 2147483647L % 10) + "\n");
    }
}
