/** Head 1 of the document's Terms, sentence by sentence: what is just within a bound, and what is beyond it. */
public final class ValueEdgesTest extends House {
    public static void main(String[] args) {
        ranks();
        ranksOfFunctions();
        extents();
        extentsOfFunctions();
        counts();
        boxing();
        opening();
        numbers();
        sizes();
        depths();
        fills();
        alike();
        orderOfItems();
        orderOfBoxes();
        origins();
        links();
        end();
    }

    /** "A VALUE has a RANK, 0 .. 6"; "a RANK above 6 is LIMIT". */
    private static void ranks() {
        about("q := 5", 0, 1, 1, 0);
        about("q := , 5", 1, 1, 1, 1);
        about("q := 1 1 1 1 1 1 rho 5", 6, 1, 1, 1);
        about("q := 1 2 1 2 1 2 rho 5", 6, 8, 8, 1);
        fails("1 1 1 1 1 1 1 rho 5", LIMIT);
        fails("0 0 0 0 0 0 0 rho 5", LIMIT);
        fails("(1000 rho 0) rho 5", LIMIT);
    }

    private static void ranksOfFunctions() {
        String x = "x := 1 1 1 1 1 1 rho 1 ; ";
        String[] beyond = {"x ,[1r2] 5", "x ,[13r2] x", "5 ,[3r2] x", "x +@ , 1", "(, 1) +@ x", "mix x x", "mix , enc x",
            "2 2 enco x", "(0 rho 0) enco x", "(1 1 rho 1)[x;, 1]", "(1 1 rho 1)[, 1;x]", "x +.* 1 1 1 rho 1", "{x} rank 0 , 1",
            "{x} key , 1", "1 {x} key 1", "1 1 1 1 1 1 1 take 5", "0 0 0 0 0 0 0 drop 5", "iota 1 1 1 1 1 1 1"};
        for (String text : beyond) fails(x + text, LIMIT);
        String[] within = {"x , 5", "x ,[6] x", "x +@ 1", "mix enc x", "2 enco x", "(, 1)[x]", "(1 1 rho 1)[x;1]",
            "x +.* 1 1 rho 1", "{x} rank 0 5", "+ rank 0 x", "1 1 1 1 1 1 take 5", "0 0 0 0 0 0 drop 5", "tr x", "- x",
            "iota 1 1 1 1 1 1"};
        for (String text : within) shows(x + "tally rho " + text, "6");
    }

    /** "EXTENTS (0 .. 1000)"; "an extent .. above 1000 .. is LIMIT", also of an EMPTY value. */
    private static void extents() {
        empty("q := 0 rho 1", "0", "0");
        empty("q := 0 0 0 0 0 0 rho 1", "0 0 0 0 0 0", "0");
        empty("q := 0 1000 rho 1", "0 1000", "0");
        empty("q := 1000 0 rho 'a'", "1000 0", " ");
        about("q := 1000 rho 1", 1, 1000, 1000, 1);
        fails("1001 rho 1", LIMIT);
        fails("2000000000 rho 1", LIMIT);
        fails("0 1001 rho 1", LIMIT);
        fails("1001 0 rho 1", LIMIT);
    }

    private static void extentsOfFunctions() {
        String x = "x := 1000 rho 1 ; e := 0 1000 rho 1 ; ";
        String[] beyond = {"x , 1", "1 , x", "e , 0 1 rho 1", "e , 0 rho 1", "1001 take 5", "_1001 take x", "1 1001 take e",
            "iota 1001", "iota 0 1001", "1001 rep 5", "_1001 rep 5", "2 rep e", "(1000 rho 2) rep x", "(iota 1000) union 0",
            "where , 1001", "0 +/ x", "0 +/ e", "fmt 501 rho 1", "x ,[1] x"};
        for (String text : beyond) fails(x + text, LIMIT);
        String[] within = {"(999 take x) , 1", "1000 take 5", "_1000 take 5", "iota 1000", "1000 rep 5", "_1000 rep 5",
            "(iota 999) union 0", "where , 1000", "0 +/ 999 rho 1", "1000 ? 1000", "x rep 7", "x expand x", "rev x", "uniq iota 1000",
            "fmt 1000 rho 'a'", "split 1000 0 rho 1", "+/ 1000 1 rho 1", "{5} rank 1 1000 1 rho 1", "x union 0 rho 1"};
        for (String text : within) shows(x + "tally " + text, "1000");
        empty("q := 2 rep 0 500 rho 1", "0 1000", "0");
        empty("q := (0 500 rho 1) , 0 500 rho 1", "0 1000", "0");
    }

    /** "COUNT, the product of the extents (1 for RANK 0)": with the SIZE it is 1000 at most. */
    private static void counts() {
        about("q := 2 500 rho 1", 2, 1000, 1000, 1);
        about("q := 10 10 10 rho 1", 3, 1000, 1000, 1);
        about("q := 1000 1000 1000 1000 1000 0 rho 1", 6, 0, 0, 1);
        fails("2 501 rho 1", LIMIT);
        fails("10 10 11 rho 1", LIMIT);
        fails("1000 1000 1000 1000 1000 1000 rho 1", LIMIT);
        fails("split 2 1000 0 rho 1", LIMIT);
        fails("+/ 2 1000 0 rho 1", LIMIT);
        fails("(32 rho 1) +@ 32 rho 1", LIMIT);
        shows("rho (25 rho 1) +@ 40 rho 1", "25 40");
        shows("rho (0 1000 rho 1) +@ 1000 rho 1", "0 1000 1000");
    }

    /** "BOXING a value gives an item: of RANK 0 with a NUMBER or SIGN that one, else a BOX." */
    private static void boxing() {
        about("q := enc 5", 0, 1, 1, 0);
        about("q := enc 'a'", 0, 1, 1, 0);
        about("q := enc , 5", 0, 1, 2, 2);
        about("q := enc ''", 0, 1, 1, 2);
        about("q := enc enc , 5", 0, 1, 3, 3);
        about("q := 5 'a' (, 5) (enc , 5)", 1, 4, 7, 3);
        House x = new House();
        x.run("q := 5 'a' (, 5) (enc , 5)");
        x.view("q");
        int[] kinds = {0, 1, 2, 2};
        for (int i = 0; i < kinds.length; i++) due("item " + i, x.h.kind(i), kinds[i]);
        due("RANK 0 with a BOX is BOXED", x.h.into(3), 0);
        due("a BOX in it", x.h.kind(0), 2);
    }

    /** "OPENING an item gives a value: of a BOX what is in it, else the value of RANK 0 with that item." */
    private static void opening() {
        shows("rho first 5 6 ; first 5 6", "|5");
        shows("first 'ab' ; rho first 'ab'", "a|");
        shows("first (5 6) 7 ; rho first (5 6) 7", "5 6|2");
        shows("rho first (enc 5 6) 7 ; first (enc 5 6) 7", "|(5 6)");
    }

    /** "n and d at most 2000000000 in size; a result that is no such one is LIMIT." */
    private static void numbers() {
        shows("4r6 _4r6 0r5 7r1 2000000000r2000000000", "2r3 _2r3 0 7 1");
        shows("1999999999 + 1", "2000000000");
        fails("2000000000 + 1", LIMIT);
        shows("_1999999999 - 1", "_2000000000");
        fails("_2000000000 - 1", LIMIT);
        shows("1r1000000000 % 2 ; 1r1000000000 % _2", "1r2000000000|_1r2000000000");
        fails("1r2000000000 % 2", LIMIT);
        fails("1r1000000001 * 1r2", LIMIT);
        fails("_1r1000000001 * 1r2", LIMIT);
        shows("1000000000 * 2 ; _1000000000 * 2", "2000000000|_2000000000");
        fails("1000000001 * 2", LIMIT);
        fails("1000000001 * _2", LIMIT);
        shows("+ 2000000000r1999999999 _1999999999r2000000000", "2000000000r1999999999 _1999999999r2000000000");
        shows("2000000000r1999999999 * 1999999999r2000000000", "1");
        shows("- _2000000000 ; | _2000000000", "2000000000|2000000000");
        shows("1r3 - 1r3 ; 1r2 + 1r2 ; 3r2 * 2", "0|1|3");
    }

    /** "The SIZE of a value: COUNT and the SIZES of the values in its BOXES"; of an EMPTY one by its FILL. */
    private static void sizes() {
        about("q := 1 (2 3) (4 (5 6))", 1, 3, 9, 3);
        about("q := ''", 1, 0, 0, 1);
        about("q := 0 rho enc 1 2 3", 1, 0, 4, 2);
        about("q := 0 rho enc ''", 1, 0, 1, 2);
        about("q := 0 rho enc enc 1 2", 1, 0, 4, 3);
        about("q := 2 rho enc 0 rho enc 1 2", 1, 2, 8, 3);
        about("q := enc 999 rho 1", 0, 1, 1000, 2);
        fails("enc 1000 rho 1", LIMIT);
        about("q := 500 rho enc , 1", 1, 500, 1000, 2);
        fails("501 rho enc , 1", LIMIT);
        about("q := (998 rho 1) 1", 1, 2, 1000, 2);
        fails("(999 rho 1) 1", LIMIT);
        about("q := split 0 999 rho 1", 1, 0, 1000, 2);
        fails("split 0 1000 rho 1", LIMIT);
        about("q := enc 0 rho enc 998 rho 1", 0, 1, 1000, 3);
        fails("enc 0 rho enc 999 rho 1", LIMIT);
    }

    /** "Its DEPTH: 0 of RANK 0 with a NUMBER or SIGN, else 1 and the greatest DEPTH"; "above 8 .. is LIMIT". */
    private static void depths() {
        shows("depth 5 ; depth 'a' ; depth , 5 ; depth '' ; depth enc , 5 ; depth 1 (2 (3 4)) (5 6)", "0|0|1|1|2|3");
        shows("depth 0 rho enc , 5 ; depth 0 rho enc enc , 5 ; depth enc 0 rho enc , 5", "2|3|3");
        about("q := enc pow 7 , 1", 0, 1, 8, 8);
        fails("enc pow 8 , 1", LIMIT);
        String d = "d := enc pow 7 , 1 ; ";
        about(d + "q := 0 rho d", 1, 0, 8, 8);
        about(d + "q := 2 0 rho d", 2, 0, 8, 8);
        about(d + "q := 3 rho d", 1, 3, 24, 8);
        fails(d + "enc d", LIMIT);
        fails(d + "1 d", LIMIT);
        fails(d + "split 0 2 rho d", LIMIT);
        fails(d + "{d}\" 1 2", LIMIT);
        shows(d + "{d}\" 0 rho 1", "");
        shows("depth mix enc pow 7 , 1", "7");
    }

    /** "FILLS are items: of a NUMBER 0, of a SIGN the blank, of a BOX a BOX with a value of the same extents". */
    private static void fills() {
        empty("q := 0 rho 7", "0", "0");
        empty("q := 0 rho 1r2", "0", "0");
        empty("q := 0 rho 'x'", "0", " ");
        empty("q := 0 rho enc 7 'x' (8 9)", "0", "(0   (0 0))");
        empty("q := 0 rho enc 2 2 rho 7", "0", "([2 2]0 0 0 0)");
        empty("q := 0 rho enc 1 2 rho 'ab'", "0", "([1 2]  )");
        empty("q := 0 rho enc ''", "0", "()");
        empty("q := 0 rho enc 0 3 rho 7", "0", "([0 3])");
        // a FILL is its own: an EMPTY one in a BOX keeps it, its items or not
        shows("q := 0 rho enc '' ; enc first first q ; e := 0 rho enc 0 rho 5 ; enc first first e", " |0");
        shows("q := 0 rho enc 0 rho enc 1 'a' ; first first q", "0  ");
        // "The FILL of a value is that of its first item"
        shows("3 take 5 'a' ; 3 take (1 2) 5 ; rho 3 take '' 5", "5 a 0|(1 2) 5 (0 0)|3");
        shows("rho 4 take 'a' 5 ; 4 take 'a' 5", "4|a 5    ");
        // "an EMPTY value has one as told; where nothing is told, 0"
        shows("2 take '' ; 2 take 0 rho 0 ; 2 take - '' ; 2 take rho 5 ; 2 take 0 rho enc 1 2", "  |0 0|0 0|0 0|(0 0) (0 0)");
    }

    /** "Items are ALIKE: the same NUMBER, the same SIGN, BOXES with values that MATCH". */
    private static void alike() {
        shows("1 match 1 ; 1 match 2 ; '1' match 1 ; 'a' match 'a' ; 'a' match 'b' ; 1r2 match 2r4", "1|0|0|1|0|1");
        shows("1 match , 1 ; (, 1) match 1 1 rho 1 ; 'a' match , 'a'", "0|0|0");
        shows("1 2 3 match 1 2 3 ; 1 2 3 match 1 2 4 ; 1 2 3 match 1 2", "1|0|0");
        shows("(2 3 rho 1) match 3 2 rho 1 ; (1 2 3 rho 1) match 1 3 2 rho 1", "0|0");
        shows("(1 (2 3)) match 1 (2 3) ; (1 (2 3)) match 1 (2 4) ; (1 (2 3)) match 1 2 ; (enc 1 2) match 1 2", "1|0|0|0");
        shows("(1 (2 'a')) match 1 (2 1) ; (1 (2 (3 4))) match 1 (2 (3 4))", "0|1");
        // NUMBERS and SIGNS that have one of two numbers in common
        shows("1r2 match 1r3 ; 1 match 1r2 ; 2r3 match 4r3 ; 'a' match 97 ; 97 match 'a' ; ' ' match 32 ; 0 match ' '", "0|0|0|0|0|0|0");
        shows("uniq 1r2 1r3 1r2 1 ; uniq 'a' 97 'a' 98 ; 97 mem 'ab' ; 'a' mem 97 98 ; 'ab' iota 97 98 'b' ; 1r2 1r3 iota 1r3", "1r2 1r3 1|a 97 98|0|0|3 3 2|2");
        shows("'ab' without 97 ; 'ab' inter 97 'b' ; 1r2 union 1r3 ; 97 find 'a' ; (enc 1 1r2) match enc 1 1r3 ; (enc 'ab') match enc 97 98", "ab|b|1r2 1r3|0|0|0");
        // "and, if both are EMPTY, ALIKE FILLS"
        shows("'' match 0 rho 'x' ; '' match 0 rho 1 ; (0 rho 1) match 0 rho 2", "1|0|1");
        shows("(0 2 rho 1) match 0 3 rho 1 ; (0 2 rho 1) match 2 0 rho 1 ; (0 2 rho 1) match 0 2 rho 'a'", "0|0|0");
        shows("(0 rho enc 1 2) match 0 rho enc 3 4 ; (0 rho enc 1 2) match 0 rho enc 'ab'", "1|0");
        shows("(1 '') match 1 (0 rho 0) ; (1 '') match 1 ''", "0|1");
    }

    /** "ORDER of items: NUMBERS, the lesser one first, then SIGNS by byte, then BOXES". */
    private static void orderOfItems() {
        shows("up 1r2 1r3 _1 0 2 ; down 1r2 1r3 _1 0 2", "3 4 2 1 5|5 1 2 4 3");
        shows("up 2000000000 1999999999r2000000000 1999999998r1999999999", "3 2 1");
        shows("up _2000000000 _1999999999r2000000000 _1999999998r1999999999", "1 2 3");
        shows("up '~ a!' ; down '~ a!'", "2 4 3 1|1 3 4 2");
        shows("up (, 1) 'a' 2000000000 ; down 2000000000 ' ' (, _5)", "3 2 1|3 2 1");
        shows("up 5 5 5 ; down 5 5 5 ; up (1 2) (1 2) ; down (1 2) (1 2)", "1 2 3|1 2 3|1 2|1 2");
        // the same value in several BOXES
        shows("x := 1 2 ; up x x 1 x ; down x x 1 x ; up 3 rho enc x ; down 3 rho enc x ; up x (1 3) x (1 1) x", "3 1 2 4|1 2 4 3|1 2 3|1 2 3|4 1 3 5 2");
    }

    /** "then BOXES: by RANK, then by the extents from the first on, then by the items (EMPTY ones: by FILLS)". */
    private static void orderOfBoxes() {
        shows("up (1 1 rho 0) (, 9) (enc 9 9)", "3 2 1");
        shows("up (2 1 rho 0) (1 3 rho 9) (1 2 rho 9)", "3 2 1");
        shows("up (1 2 3 rho 0) (1 2 2 rho 5) (1 1 9 rho 7)", "3 2 1");
        shows("up (1 2 3) (0 9) (, 99)", "3 2 1");
        shows("up (1 2 3) (1 2 2) (1 1 9)", "3 2 1");
        shows("up (2 2 rho 1 2 3 4) (2 2 rho 1 2 3 3) (2 2 rho 1 2 2 9)", "3 2 1");
        shows("up (1 (2 3)) (1 (2 2)) (1 'a') (1 9)", "4 3 2 1");
        shows("up (, enc 1 2) (, 'a') (, 1)", "3 2 1");
        shows("up (0 rho enc 1 2) '' (0 rho 0)", "3 2 1");
        shows("up (0 rho enc 1 2 3) (0 rho enc 1 2) (0 rho enc 'ab')", "2 3 1");
        shows("up (0 3 rho 1) (0 2 rho 'a') ''", "3 2 1");
        shows("down (0 3 rho 1) (0 2 rho 'a') ''", "1 2 3");
        shows("x := (, 5) (, 5) (, 5) ; y := 9 8 7 ; up x ; down x ; x := '' '' (0 rho 'q') ; y := 7 ; up x ; down x", "1 2 3|1 2 3|1 2 3|1 2 3");
    }

    /** "ORIGIN is 0 or 1 (at first 1): AXES, and places along an axis, are numbered from it on." */
    private static void origins() {
        String[][] rows = {{"iota 3", "1 2 3", "0 1 2"}, {"(4 5 6)[1]", "4", "5"}, {"up 5 4 6", "2 1 3", "1 0 2"},
            {"where 1 0 1", "1 3", "0 2"}, {"4 5 6 iota 6 7", "3 4", "2 3"}, {"1 pick 7 8", "7", "8"},
            {"+/[1] 2 3 rho iota 6", "5 7 9", "3 12"}, {"{enc right} key 'aba'", "(1 3) (2)", "(0 2) (1)"}, {"? 1", "1", "0"},
            {"iota 1 2", "[1 2](1 1) (1 2)", "[1 2](0 0) (0 1)"}, {"rho 1 2 3 ,[1r2] 3 4 5", "2 3", "3 2"},
            {"1 ? 1", "1", "0"}, {"where 1 2 rho 0 1", "(1 2)", "(0 1)"}, {"rev[1] 2 2 rho iota 4", "[2 2]3 4 1 2", "[2 2]1 0 3 2"}};
        for (String[] row : rows) {
            shows(row[0], row[1]);
            House x = new House();
            x.h.set(0, 0);
            due("ORIGIN 0: " + row[0], x.run(row[0]), 0);
            due("ORIGIN 0: " + row[0], x.shown(), row[2] + "\n");
        }
        House x = new House();
        x.h.set(0, 0);
        due("ORIGIN 0", x.run("rev[0] 2 2 rho 1 1 2 2 ; 1 0 tr 1 2 rho 7 8 ; rho 1 2 3 ,[_1r2] 3 4 5 ; rho 1 2 3 ,[1r2] 3 4 5"), 0);
        due("ORIGIN 0", x.shown(), "[2 2]2 2 1 1\n[2 1]7 8\n2 3\n3 2\n");
        due("ORIGIN 0: beyond the last axis", x.run("rev[2] 2 2 rho 1"), INDEX);
        due("ORIGIN 0: beyond the last place", x.run("(4 5 6)[3]"), INDEX);
        due("ORIGIN 0: below the first place", x.run("(4 5 6)[_1]"), INDEX);
        fails("rev[3] 2 2 rho 1", INDEX);
        fails("rev[0] 2 2 rho 1", INDEX);
    }

    /** "LINK is 1 .. 2147483646 (at first 1)." */
    private static void links() {
        House x = new House();
        due("LINK at first", x.h.told(6), 1);
        x.run("? 10");
        due("LINK", x.h.told(6), 16807);
        x.h.set(1, 2147483646);
        x.run("? 10");
        due("LINK behind the greatest", x.h.told(6), 2147466840);
        x.h.set(1, 1407677000);
        x.run("? 10");
        due("the least LINK", x.h.told(6), 1);
    }
}
